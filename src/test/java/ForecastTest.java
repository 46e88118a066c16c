/** Promises 20 to 26: ifGap, wrong, bears, brokenAt, wordsTo, brightness, digest. */
final class ForecastTest {
  private static final Class<IndexOutOfBoundsException> INDEX = IndexOutOfBoundsException.class;
  private static final Class<IllegalArgumentException> ARGUMENT = IllegalArgumentException.class;

  public static void main(String[] args) {
    ifGaps();
    wrongLamps();
    bornLosses();
    breaks();
    wordsNeeded();
    brightnesses();
    digests();
    Due.end();
  }

  private static void ifGapIs(WireLamps lamps, int lamp, int word) {
    Due.is("ifGap(" + lamp + ", 0)", lamps.ifGap(lamp, 0), word);
    Due.is("ifGap(" + lamp + ", 1)", lamps.ifGap(lamp, 1), word);
  }

  private static void ifGaps() {
    WireLamps lamps = new WireLamps();
    lamps.send(0x111);
    lamps.gap();
    lamps.mode(1, 3);
    lamps.mode(2, 1);
    lamps.mode(4, 2);
    lamps.send(0xabc);
    lamps.send(0x0f1);
    lamps.send(0x222);
    lamps.send(0x333);
    int[] due = {0xabc, 0, 0x0f1, 0x222, 0, 0, 0, 0};
    for (int lamp = 0; lamp < 8; lamp++) {
      ifGapIs(lamps, lamp, due[lamp]);
    }
    lamps.loss(0, 3);
    ifGapIs(lamps, 0, 0);
    lamps.drop();
    for (int i = 0; i < 11; i++) {
      lamps.pulse(20);
    }
    ifGapIs(lamps, 0, 0x111);
    lamps.pulse(8);
    ifGapIs(lamps, 0, 0xffe);
    lamps.mode(0, 2);
    ifGapIs(lamps, 0, 0x111);
    lamps.mode(0, 3);
    ifGapIs(lamps, 0, 0x111);
    ifGapIs(lamps, 2, 0xffe);

    WireLamps worn = new WireLamps();
    for (int lamp = 0; lamp < 4; lamp++) {
      worn.loss(lamp, 2);
    }
    Due.sendTimes(worn, 0x9a5, 4);
    ifGapIs(worn, 3, 0x9a5);
    worn.mode(1, 3);
    ifGapIs(worn, 0, 0x9a5);
    ifGapIs(worn, 2, 0);
    worn.mode(1, 0);
    worn.set(1, 0);
    ifGapIs(worn, 0, 0x9a5);
    ifGapIs(worn, 1, 0);
    worn.set(0, 2);
    ifGapIs(worn, 2, 0x9a5);
    ifGapIs(worn, 3, 0);
    Due.refuses(lamps, "ifGap(8, 0)", INDEX, () -> lamps.ifGap(8, 0));
    Due.refuses(lamps, "ifGap(-1, 2)", INDEX, () -> lamps.ifGap(-1, 2));
    Due.refuses(lamps, "ifGap(0, 2)", ARGUMENT, () -> lamps.ifGap(0, 2));
    Due.refuses(lamps, "ifGap(0, -1)", ARGUMENT, () -> lamps.ifGap(0, -1));
  }

  private static void wrongLamps() {
    WireLamps lamps = new WireLamps();
    Due.is("wrong(0) of a new row", lamps.wrong(0), 0);
    Due.is("wrong(4095) of a new row", lamps.wrong(4095), 0);
    lamps.pulse(1);
    Due.is("the frame does not matter", lamps.wrong(1365), 0);
    lamps.mode(0, 1);
    lamps.mode(3, 3);
    Due.is("a dark and a bridged lamp", lamps.wrong(1), 1 + 8);
    Due.is("which shine by 0", lamps.wrong(0), 0);
    lamps.mode(5, 2);
    Due.is("a broken lamp", lamps.wrong(1), 1 + 8 + 32 + 64 + 128);
    lamps.mode(5, 0);
    lamps.drop();
    Due.sendTimes(lamps, 0x345, 8);
    lamps.gap();
    lamps.mode(5, 2);
    Due.is("lamps behind the break shine by what they know", lamps.wrong(0x345), 1 + 8 + 32);
    Due.is("and not by another word", lamps.wrong(0), 64 + 128);
    lamps.mode(5, 0);
    lamps.loss(6, 3);
    Due.is("a loss by which 1 is read as 0, handed on", lamps.wrong(0x111), 1 + 8 + 64 + 128);
    Due.is("zeros are read as 0", lamps.wrong(0), 0);
    lamps.set(0, 4);
    Due.is("zeros that are read as 1 where nothing is lost", lamps.wrong(0), 2 + 4 + 16 + 32 + 64 + 128);
    Due.is("and ones are read as 1", lamps.wrong(4095), 1 + 8);
    Due.refuses(lamps, "wrong(-1)", ARGUMENT, () -> lamps.wrong(-1));
    Due.refuses(lamps, "wrong(4096)", ARGUMENT, () -> lamps.wrong(4096));
  }

  private static void bornLosses() {
    WireLamps lamps = new WireLamps();
    Due.is("bears(0)", lamps.bears(0), 2);
    lamps.set(0, 5);
    Due.is("bears(0), 5 is read as 1", lamps.bears(0), 3);
    lamps.set(0, 2);
    Due.is("bears(7): zeros are read as 1 without losses", lamps.bears(7), WireLamps.NONE);
    for (int lamp = 0; lamp < 8; lamp++) {
      lamps.loss(lamp, 3);
    }
    Due.is("bears(7) with losses", lamps.bears(7), 6);
    Due.is("bears leaves the loss", lamps.lampOf(7, 1), 3);
    lamps.set(1, 0);
    Due.is("bears(0), nothing made anew", lamps.bears(0), WireLamps.NONE);
    WireLamps plain = new WireLamps();
    plain.set(1, 0);
    plain.loss(3, 1);
    Due.is("bears(0): the losses add up", plain.bears(0), 1);
    Due.is("bears(3): its own loss is replaced", plain.bears(3), 2);
    plain.mode(6, 1);
    Due.is("bears with a dark lamp", plain.bears(0), WireLamps.NONE);
    WireLamps strong = new WireLamps();
    strong.set(0, 9);
    Due.is("bears: no pulse is read as 1", strong.bears(0), WireLamps.NONE);
    strong.set(0, 8);
    Due.is("bears: no loss", strong.bears(0), 0);
    Due.refuses(strong, "bears(8)", INDEX, () -> strong.bears(8));
    Due.refuses(strong, "bears(-1)", INDEX, () -> strong.bears(-1));
  }

  private static void breaks() {
    WireLamps lamps = new WireLamps();
    Due.is("brokenAt() of a whole row", lamps.brokenAt(), WireLamps.NONE);
    lamps.mode(7, 2);
    Due.is("brokenAt(): pulses come to a broken last lamp", lamps.brokenAt(), WireLamps.NONE);
    lamps.mode(6, 2);
    Due.is("brokenAt() 6", lamps.brokenAt(), 7);
    lamps.mode(1, 3);
    lamps.mode(2, 1);
    Due.is("brokenAt(): bridges and dark lamps hand on", lamps.brokenAt(), 7);
    lamps.mode(0, 2);
    Due.is("brokenAt() 0", lamps.brokenAt(), 1);
  }

  private static void wordsNeeded() {
    WireLamps lamps = new WireLamps();
    for (int lamp = 0; lamp < 8; lamp++) {
      Due.is("wordsTo(" + lamp + ")", lamps.wordsTo(lamp), lamp + 1);
    }
    lamps.mode(0, 1);
    lamps.mode(2, 3);
    lamps.mode(5, 2);
    int[] due = {1, 2, -1, 3, 4, -1, -1, -1};
    for (int lamp = 0; lamp < 8; lamp++) {
      Due.is("wordsTo(" + lamp + ") past others", lamps.wordsTo(lamp), due[lamp]);
    }
    Due.refuses(lamps, "wordsTo(8)", INDEX, () -> lamps.wordsTo(8));
    Due.refuses(lamps, "wordsTo(-1)", INDEX, () -> lamps.wordsTo(-1));
  }

  private static void brightnesses() {
    WireLamps lamps = new WireLamps();
    Due.isDouble("brightness() of a new row", lamps.brightness(), 0.0);
    lamps.send(0x001);
    lamps.gap();
    Due.isDouble("brightness() 1", lamps.brightness(), 1.0 / 360.0);
    Due.sendTimes(lamps, 4095, 8);
    lamps.gap();
    Due.isDouble("brightness() of all", lamps.brightness(), 1.0);
    lamps.set(2, 180);
    Due.isDouble("brightness() of half the current", lamps.brightness(), 168.0 / 360.0);
  }

  /** The digest of any object, worked out from its answers as the document tells. */
  static long digestOf(WireLamps lamps, boolean slot0, boolean slot1, String buffer) {
    long hash = 3517;
    for (int what = 0; what <= 10; what++) {
      hash = 31 * hash + lamps.count(what);
    }
    for (int setting = 0; setting < 3; setting++) {
      hash = 31 * hash + lamps.setting(setting);
    }
    for (int lamp = 0; lamp < 8; lamp++) {
      for (int what = 0; what < 8; what++) {
        hash = 31 * hash + lamps.lampOf(lamp, what);
      }
      hash = 31 * hash + lamps.ifGap(lamp, 0);
      hash = 31 * hash + lamps.ifGap(lamp, 1);
      hash = 31 * hash + lamps.bears(lamp);
      hash = 31 * hash + lamps.wordsTo(lamp);
    }
    for (int place = 0; place < lamps.count(0); place++) {
      hash = 31 * hash + lamps.pulseAt(place);
    }
    hash = 31 * hash + lamps.wrong(1365);
    hash = 31 * hash + lamps.wrong(4095);
    hash = 31 * hash + lamps.brokenAt();
    hash = 31 * hash + Double.doubleToLongBits(lamps.brightness());
    hash = 31 * hash + (slot0 ? 1 : 0);
    hash = 31 * hash + (slot1 ? 1 : 0);
    hash = 31 * hash + buffer.length();
    for (int i = 0; i < buffer.length(); i++) {
      hash = 31 * hash + buffer.charAt(i);
    }
    return hash;
  }

  private static void digests() {
    WireLamps lamps = new WireLamps();
    Due.is("digest() of a new row", lamps.digest(), digestOf(lamps, false, false, ""));
    lamps.keep(1);
    Due.is("digest() with the slot 1", lamps.digest(), digestOf(lamps, false, true, ""));
    Due.write(lamps, "!~f0");
    Due.is("digest() with a buffer", lamps.digest(), digestOf(lamps, false, true, "!~f0"));
    lamps.keep(0);
    lamps.mode(3, 2);
    lamps.send(0x0f3);
    lamps.gap();
    lamps.pulse(13);
    lamps.send(0x123);
    Due.is("digest() of more", lamps.digest(), digestOf(lamps, true, true, "!~f0"));
    // Every brightness that a row can show, for the bits of its share.
    for (int shown = 0; shown <= 360; shown++) {
      WireLamps row = new WireLamps();
      int left = shown;
      for (int lamp = 0; lamp < 8; lamp++) {
        int word = 0;
        for (int colour = 0; colour < 3; colour++) {
          int part = Math.min(15, left);
          left -= part;
          word = 16 * word + part;
        }
        row.send(word);
      }
      row.gap();
      Due.is("shown", row.count(7), shown);
      Due.is("digest() with " + shown + " shown", row.digest(), digestOf(row, false, false, ""));
    }
  }
}
