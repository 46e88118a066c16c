/** Objects as the tests of edges begin with, and all that an object holds. */
final class Made {
  static final int[] NO_LAMPS = {-1, 8, Integer.MIN_VALUE, Integer.MAX_VALUE};
  static final String TEN_WORDS = "000,111,222,333,444,555,666,777,888,999";

  private Made() {
  }

  /** A row whose frame has so many pulses, all of the length 4. */
  static WireLamps withPulses(int pulses) {
    WireLamps lamps = new WireLamps();
    addPulses(lamps, pulses);
    return lamps;
  }

  static void addPulses(WireLamps lamps, int pulses) {
    Due.sendTimes(lamps, 0, pulses / 12);
    for (int i = 0; i < pulses % 12; i++) {
      lamps.pulse(4);
    }
  }

  /** A row with a full frame and a single saved state. */
  static WireLamps full() {
    WireLamps lamps = withText(TEN_WORDS);
    lamps.load();
    return lamps;
  }

  static WireLamps withText(String text) {
    WireLamps lamps = new WireLamps();
    Due.write(lamps, text);
    return lamps;
  }

  /** A row whose lamps all know this word and shine by it. */
  static WireLamps knowing(int word) {
    WireLamps lamps = new WireLamps();
    Due.sendTimes(lamps, word, 8);
    lamps.gap();
    return lamps;
  }

  /** Six pulses of one length and six of another, in turn. */
  static void addTurns(WireLamps lamps, int first, int second) {
    for (int i = 0; i < 6; i++) {
      lamps.pulse(first);
      lamps.pulse(second);
    }
  }

  /** A row of which nothing is as at first, with two snapshots, six saved states and a buffer. */
  static WireLamps withAll() {
    WireLamps lamps = new WireLamps();
    Due.sendTimes(lamps, 0x9c6, 10);
    lamps.send(1);
    lamps.gap();
    lamps.keep(0);
    lamps.pulse(20);
    lamps.drop();
    lamps.mode(1, 1);
    lamps.mode(5, 3);
    lamps.mode(6, 2);
    lamps.keep(1);
    lamps.loss(2, 3);
    lamps.set(0, 4);
    lamps.set(1, 0);
    lamps.set(2, 77);
    lamps.pulse(17);
    lamps.send(0x5a3);
    Due.write(lamps, "0f9,!x");
    return lamps;
  }

  /** Digests of the object, of its saved states and of its snapshots; the object is used up by it. */
  static String allOf(WireLamps lamps) {
    StringBuilder told = new StringBuilder();
    told.append(lamps.digest());
    while (lamps.count(10) > 0) {
      lamps.undo();
      told.append(" undone ").append(lamps.digest());
    }
    for (int slot = 0; slot < 2; slot++) {
      try {
        lamps.goBack(slot);
        told.append(" slot ").append(lamps.digest());
      } catch (IllegalStateException e) {
        told.append(" no slot");
      }
    }
    return told.toString();
  }
}
