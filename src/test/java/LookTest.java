/** Promises 16 to 19: lampOf, pulseAt, count, setting. */
final class LookTest {
  private static final Class<IndexOutOfBoundsException> INDEX = IndexOutOfBoundsException.class;
  private static final Class<IllegalArgumentException> ARGUMENT = IllegalArgumentException.class;

  public static void main(String[] args) {
    lamps();
    current();
    numbers();
    wrongInputs();
    nothingIsChanged();
    Due.end();
  }

  private static void lamps() {
    WireLamps lamps = new WireLamps();
    lamps.mode(1, 1);
    lamps.loss(0, 1);
    Due.sendTimes(lamps, 0x2c7, 2);
    lamps.gap();
    int[] first = {0, 1, 0x2c7, 0x2c7, 2, 12, 7, 24};
    int[] second = {1, 0, 0x2c7, 0, 0, 0, 0, 12};
    for (int what = 0; what < 8; what++) {
      Due.is("lampOf(0, " + what + ")", lamps.lampOf(0, what), first[what]);
      Due.is("lampOf(1, " + what + ")", lamps.lampOf(1, what), second[what]);
    }
    lamps.gap();
    Due.is("came at the last gap alone", lamps.lampOf(0, 7), 0);
  }

  private static void current() {
    WireLamps lamps = new WireLamps();
    lamps.send(0xf01);
    lamps.send(0x777);
    lamps.gap();
    Due.is("current wanted", lamps.count(6), 37);
    lamps.set(2, 37);
    Due.is("as much current as wanted", lamps.count(7), 37);
    lamps.set(2, 36);
    int[] shown = {14, 0, 0, 6, 6, 6};
    for (int i = 0; i < 6; i++) {
      Due.is("shown " + i, lamps.lampOf(i / 3, 4 + i % 3), shown[i]);
    }
    Due.is("shown together", lamps.count(7), 32);
    Due.is("wanted as before", lamps.count(6), 37);
    lamps.set(2, 0);
    Due.is("no current", lamps.count(7), 0);
    Due.is("no current, lamps that shine by a word", lamps.count(8), 2);
    lamps.set(2, 360);
    Due.sendTimes(lamps, 4095, 8);
    lamps.gap();
    Due.is("all wanted", lamps.count(6), 360);
    Due.is("all shown", lamps.count(7), 360);
    Due.is("all shine", lamps.count(8), 8);
    lamps.set(2, 359);
    Due.is("one less: each a step less bright", lamps.count(7), 24 * 14);
  }

  private static void numbers() {
    WireLamps lamps = new WireLamps();
    Due.sendTimes(lamps, 0x111, 10);
    lamps.send(1);
    lamps.pulse(1);
    lamps.gap();
    lamps.send(0x111);
    lamps.drop();
    lamps.send(0);
    lamps.pulse(1);
    lamps.gap();
    lamps.pulse(2);
    int[] due = {1, 2, 120 + 12 + 13 + 1, 108, 25, 12, 21, 21, 7, 2, 6};
    for (int what = 0; what < due.length; what++) {
      Due.is("count(" + what + ")", lamps.count(what), due[what]);
    }
  }

  private static void wrongInputs() {
    WireLamps lamps = new WireLamps();
    Due.refuses(lamps, "lampOf(8, 0)", INDEX, () -> lamps.lampOf(8, 0));
    Due.refuses(lamps, "lampOf(-1, 8)", INDEX, () -> lamps.lampOf(-1, 8));
    Due.refuses(lamps, "lampOf(0, 8)", ARGUMENT, () -> lamps.lampOf(0, 8));
    Due.refuses(lamps, "lampOf(0, -1)", ARGUMENT, () -> lamps.lampOf(0, -1));
    Due.refuses(lamps, "pulseAt(-1)", ARGUMENT, () -> lamps.pulseAt(-1));
    Due.is("pulseAt(120)", lamps.pulseAt(120), WireLamps.NONE);
    Due.is("pulseAt(MAX)", lamps.pulseAt(Integer.MAX_VALUE), WireLamps.NONE);
    Due.refuses(lamps, "count(11)", ARGUMENT, () -> lamps.count(11));
    Due.refuses(lamps, "count(-1)", ARGUMENT, () -> lamps.count(-1));
    Due.refuses(lamps, "setting(3)", INDEX, () -> lamps.setting(3));
    Due.refuses(lamps, "setting(-1)", INDEX, () -> lamps.setting(-1));
    Due.sendTimes(lamps, 0, 10);
    Due.is("pulseAt(119)", lamps.pulseAt(119), 4);
    Due.is("pulseAt(120) of a full frame", lamps.pulseAt(120), WireLamps.NONE);
  }

  private static void nothingIsChanged() {
    WireLamps lamps = new WireLamps();
    lamps.send(0x5a5);
    lamps.gap();
    lamps.send(0x123);
    long before = lamps.digest();
    lamps.lampOf(0, 4);
    lamps.pulseAt(3);
    lamps.count(7);
    lamps.setting(1);
    lamps.ifGap(0, 0);
    lamps.ifGap(0, 1);
    lamps.wrong(77);
    lamps.bears(0);
    lamps.brokenAt();
    lamps.wordsTo(7);
    lamps.brightness();
    Due.is("digest behind looks", lamps.digest(), before);
  }
}
