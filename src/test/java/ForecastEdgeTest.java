/** The edges of the promises 20 to 26: ifGap, wrong, bears, brokenAt, wordsTo, brightness, digest. */
final class ForecastEdgeTest {
  private static final Class<IndexOutOfBoundsException> INDEX = IndexOutOfBoundsException.class;
  private static final Class<IllegalArgumentException> ARGUMENT = IllegalArgumentException.class;
  private static final int NONE = WireLamps.NONE;
  private static final int MIN = Integer.MIN_VALUE;
  private static final int MAX = Integer.MAX_VALUE;
  // All rows of which the first four lamps are of any kind.
  private static final int ROWS = 256;

  public static void main(String[] args) {
    promise20();
    promise21();
    promise22();
    promise23();
    promise24();
    promise25();
    promise26();
    Due.end();
  }

  /** A row whose first four lamps are what the row's number tells, by four: the rest are good. */
  private static WireLamps row(int number) {
    WireLamps lamps = new WireLamps();
    setModes(lamps, number);
    return lamps;
  }

  private static void setModes(WireLamps lamps, int number) {
    for (int lamp = 0; lamp < 4; lamp++) {
      lamps.mode(lamp, (number >> (2 * lamp)) & 3);
    }
  }

  // ---- promise 20: ifGap

  private static void promise20() {
    Due.holds("Promise 20", "Tells the word that a lamp would know behind a gap now.",
        ForecastEdgeTest::asAGapDoes);
    Due.holds("Promise 20", "Returns the word (the same for both).", ForecastEdgeTest::sameForBoth);
    Due.holds("Promise 20", "by its place in the row and the losses ahead of it", ForecastEdgeTest::byPlaceAndLosses);
    Due.holds("A gap", "If fewer than 12 pulses come to it, it keeps the word that it knows",
        ForecastEdgeTest::keptWords);
    Due.holds("Promise 20", "`lamp`: 0 to 7", () -> {
      WireLamps lamps = new WireLamps();
      for (int lamp = 0; lamp < 8; lamp++) {
        lamps.send(lamp + 1);
        Due.is("ifGap(" + lamp + ", 0)", lamps.ifGap(lamp, 0), lamp + 1);
        Due.is("ifGap(" + lamp + ", 1)", lamps.ifGap(lamp, 1), lamp + 1);
      }
    });
    Due.holds("Promise 20", "Throws `IndexOutOfBoundsException` if there is no such lamp", () -> {
      WireLamps lamps = new WireLamps();
      for (int lamp : Made.NO_LAMPS) {
        for (int what : new int[] {0, 1, 2, -1, MIN, MAX}) {
          Due.refuses(lamps, "ifGap(" + lamp + ", " + what + ")", INDEX, () -> lamps.ifGap(lamp, what));
        }
      }
    });
    Due.holds("Promise 20", "Throws `IllegalArgumentException` if what is not 0 or 1", () -> {
      WireLamps lamps = new WireLamps();
      for (int what : new int[] {-1, 2, MIN, MAX}) {
        Due.refuses(lamps, "ifGap(0, " + what + ")", ARGUMENT, () -> lamps.ifGap(0, what));
        Due.refuses(lamps, "ifGap(7, " + what + ")", ARGUMENT, () -> lamps.ifGap(7, what));
      }
    });
  }

  /** What each lamp tells of a gap is what it knows behind one. */
  private static void gapTells(String row, WireLamps lamps) {
    int[] lampByLamp = new int[8];
    int[] byPlace = new int[8];
    for (int lamp = 0; lamp < 8; lamp++) {
      lampByLamp[lamp] = lamps.ifGap(lamp, 0);
      byPlace[lamp] = lamps.ifGap(lamp, 1);
    }
    lamps.gap();
    for (int lamp = 0; lamp < 8; lamp++) {
      Due.is(row + ": ifGap(" + lamp + ", 0)", lampByLamp[lamp], lamps.lampOf(lamp, 2));
      Due.is(row + ": ifGap(" + lamp + ", 1)", byPlace[lamp], lamps.lampOf(lamp, 2));
    }
  }

  private static void asAGapDoes() {
    for (int number = 0; number < ROWS; number++) {
      for (int words : new int[] {0, 3, 5, 10}) {
        WireLamps lamps = row(number);
        for (int word = 1; word <= words; word++) {
          lamps.send(0x111 * word);
        }
        gapTells("row " + number + ", " + words + " words", lamps);
      }
    }
    // It tells of what is now: the loss, the settings and the pulses of this moment.
    WireLamps lamps = new WireLamps();
    lamps.send(0xfff);
    Due.is("as it is", lamps.ifGap(0, 1), 0xfff);
    lamps.loss(0, 3);
    Due.is("with a loss", lamps.ifGap(0, 1), 0);
    Due.is("with a loss, lamp by lamp", lamps.ifGap(0, 0), 0);
    lamps.set(0, 5);
    Due.is("with another limit", lamps.ifGap(0, 1), 0xfff);
    Due.is("with another limit, lamp by lamp", lamps.ifGap(0, 0), 0xfff);
    lamps.drop();
    Due.is("without pulses", lamps.ifGap(0, 1), 0);
    Due.is("without pulses, lamp by lamp", lamps.ifGap(0, 0), 0);
  }

  private static void sameForBoth() {
    // Rows of losses, limits and pulses of all lengths, made anew or not.
    for (int i = 0; i < 400; i++) {
      WireLamps lamps = row(i * 37 % ROWS & 0x55);
      lamps.set(0, 2 + i % 11);
      lamps.set(1, i % 2);
      for (int lamp = 0; lamp < 8; lamp++) {
        lamps.loss(lamp, (i / 3 + lamp * (1 + i % 5)) % 4);
      }
      for (int pulse = 0; pulse < 96 + i % 25; pulse++) {
        lamps.pulse(1 + (pulse * (7 + i % 13) + i) % 20);
      }
      gapTells("mix " + i, lamps);
    }
  }

  private static void byPlaceAndLosses() {
    // The word of the lamp 3, not made anew, from 20 and 19: 20 - 1 - 2 - 3 - 4 is 10.
    WireLamps lamps = new WireLamps();
    lamps.set(0, 10);
    lamps.set(1, 0);
    for (int lamp = 0; lamp < 4; lamp++) {
      lamps.loss(lamp, lamp + 1);
    }
    Due.sendTimes(lamps, 0xfff, 3);
    Made.addTurns(lamps, 20, 19);
    Due.is("lamp by lamp", lamps.ifGap(3, 0), 0xaaa);
    Due.is("by its place", lamps.ifGap(3, 1), 0xaaa);
    lamps.loss(4, 6);
    Due.is("a loss behind it does not matter", lamps.ifGap(3, 1), 0xaaa);
    lamps.mode(4, 2);
    lamps.mode(5, 3);
    Due.is("nor does what lamps behind it are", lamps.ifGap(3, 1), 0xaaa);
    lamps.mode(0, 1);
    Due.is("nor does a dark lamp ahead", lamps.ifGap(3, 1), 0xaaa);
    lamps.loss(2, 4);
    Due.is("a loss ahead does", lamps.ifGap(3, 1), 0);
    lamps.loss(2, 3);
    lamps.mode(2, 3);
    Due.is("a bridge ahead does, by which it has another place", lamps.ifGap(3, 1), 0);
    Due.is("lamp by lamp, too", lamps.ifGap(3, 0), 0);
  }

  private static void keptWords() {
    for (int lamp = 0; lamp < 8; lamp++) {
      int needed = 12 * (lamp + 1);
      for (int pulses : new int[] {needed - 1, needed}) {
        WireLamps lamps = Made.knowing(0xabc);
        Made.addPulses(lamps, pulses);
        int due = pulses == needed ? 0 : 0xabc;
        Due.is("ifGap(" + lamp + ", 0) of " + pulses, lamps.ifGap(lamp, 0), due);
        Due.is("ifGap(" + lamp + ", 1) of " + pulses, lamps.ifGap(lamp, 1), due);
      }
    }
    for (int mode = 2; mode <= 3; mode++) {
      WireLamps lamps = Made.knowing(0xabc);
      lamps.mode(3, mode);
      Due.sendTimes(lamps, 0x111, 10);
      Due.is("a lamp of the mode " + mode + ", lamp by lamp", lamps.ifGap(3, 0), 0xabc);
      Due.is("a lamp of the mode " + mode + ", by its place", lamps.ifGap(3, 1), 0xabc);
      Due.is("behind it, lamp by lamp", lamps.ifGap(4, 0), mode == 2 ? 0xabc : 0x111);
      Due.is("behind it, by its place", lamps.ifGap(4, 1), mode == 2 ? 0xabc : 0x111);
    }
  }

  // ---- promise 21: wrong

  private static void promise21() {
    Due.holds("Promise 21", "if eight words were sent, one for each lamp, in order, and then a gap was",
        ForecastEdgeTest::asEightWordsDo);
    Due.holds("Promise 21", "`word`: 0 to 4095, for each of them", () -> {
      WireLamps lamps = new WireLamps();
      for (int word : new int[] {0, 1, 2047, 2048, 4095}) {
        Due.is("wrong(" + word + ")", lamps.wrong(word), 0);
      }
      lamps.mode(2, 1);
      Due.is("wrong(0) with a dark lamp", lamps.wrong(0), 0);
      Due.is("wrong(1) with a dark lamp", lamps.wrong(1), 4);
      Due.is("wrong(4095) with a dark lamp", lamps.wrong(4095), 4);
    });
    Due.holds("Promise 21", "Returns the lamps that would shine by another word than this one then, as a mask",
        ForecastEdgeTest::masks);
    Due.holds("Promise 21", "(the frame of now does not matter)", ForecastEdgeTest::anyFrame);
    Due.holds("Promise 21", "Throws `IllegalArgumentException` if word is out of range", () -> {
      WireLamps lamps = new WireLamps();
      for (int word : new int[] {-1, 4096, MIN, MAX}) {
        Due.refuses(lamps, "wrong(" + word + ")", ARGUMENT, () -> lamps.wrong(word));
      }
    });
  }

  /** The mask of lamps that shine otherwise than by the word, when eight of them are sent indeed. */
  private static int shineWrong(WireLamps lamps, int word) {
    lamps.drop();
    Due.sendTimes(lamps, word, 8);
    lamps.gap();
    int mask = 0;
    for (int lamp = 0; lamp < 8; lamp++) {
      if (lamps.lampOf(lamp, 3) != word) {
        mask |= 1 << lamp;
      }
    }
    return mask;
  }

  private static void asEightWordsDo() {
    int[] words = {0, 0xfff, 0x555, 0xaaa, 0x801};
    for (int i = 0; i < 800; i++) {
      WireLamps lamps = new WireLamps();
      int word = words[i % 5];
      // Some lamps know the word already: those that no pulse reaches then shine right by it.
      if (i % 3 == 0) {
        Due.sendTimes(lamps, word, 8);
        lamps.gap();
      }
      setModes(lamps, i % ROWS);
      lamps.set(0, 2 + i % 11);
      lamps.set(1, i / 11 % 2);
      for (int lamp = 0; lamp < 8; lamp++) {
        lamps.loss(lamp, (i / 7 + lamp * (i % 4)) % 4);
      }
      int told = lamps.wrong(word);
      Due.is("mix " + i + ": wrong(" + word + ")", told, shineWrong(lamps, word));
    }
  }

  private static void masks() {
    for (int lamp = 0; lamp < 8; lamp++) {
      WireLamps lamps = new WireLamps();
      lamps.mode(lamp, 1);
      Due.is("the lamp " + lamp + " is dark", lamps.wrong(0x123), 1 << lamp);
      lamps.mode(lamp, 3);
      Due.is("the lamp " + lamp + " is bridged", lamps.wrong(0x123), 1 << lamp);
      lamps.mode(lamp, 2);
      Due.is("the lamp " + lamp + " is broken", lamps.wrong(0x123), 256 - (1 << lamp));
      lamps.mode(lamp, 0);
      lamps.loss(lamp, 6);
      Due.is("ahead of the lamp " + lamp + " much is lost", lamps.wrong(0x123), 256 - (1 << lamp));
    }
    WireLamps lamps = new WireLamps();
    lamps.set(0, 12);
    Due.is("all are wrong", lamps.wrong(1), 255);
    Due.is("all are right by 0", lamps.wrong(0), 0);
  }

  private static void anyFrame() {
    for (int pulses : new int[] {0, 1, 11, 12, 119, 120}) {
      WireLamps lamps = Made.withPulses(pulses);
      Due.is("wrong(0xfff) with " + pulses + " pulses", lamps.wrong(0xfff), 0);
      Due.is("the frame stays", lamps.count(0), pulses);
      Due.is("nothing is refused", lamps.count(9), 0);
    }
  }

  // ---- promise 22: bears

  private static void promise22() {
    Due.holds("Promise 22", "Returns the greatest loss, 0 to 6, of its wire", ForecastEdgeTest::greatestLoss);
    Due.holds("Promise 22", "with which wrong(1365) and wrong(2730) would both be 0", ForecastEdgeTest::asWrongTells);
    Due.holds("Promise 22", "(for all lamps)", ForecastEdgeTest::forAllLamps);
    Due.holds("Promise 22", "NONE if there is none.", ForecastEdgeTest::noLossIsBorne);
    Due.holds("Promise 22", "`lamp`: 0 to 7", () -> {
      for (int lamp = 0; lamp < 8; lamp++) {
        // Its own loss alone is too much: it is borne no more, but the wire bears 2.
        WireLamps lamps = new WireLamps();
        lamps.loss(lamp, 3);
        Due.is("bears(" + lamp + ")", lamps.bears(lamp), 2);
        Due.is("bears() of the next one", lamps.bears((lamp + 1) % 8), NONE);
      }
    });
    Due.holds("Promise 22", "Throws `IndexOutOfBoundsException` if there is no such lamp", () -> {
      WireLamps lamps = new WireLamps();
      for (int lamp : Made.NO_LAMPS) {
        Due.refuses(lamps, "bears(" + lamp + ")", INDEX, () -> lamps.bears(lamp));
      }
    });
  }

  private static void greatestLoss() {
    for (int limit = 5; limit <= 8; limit++) {
      WireLamps lamps = new WireLamps();
      lamps.set(0, limit);
      for (int lamp = 0; lamp < 8; lamp++) {
        Due.is("limit " + limit + ": bears(" + lamp + ")", lamps.bears(lamp), 8 - limit);
      }
    }
    // With the limit 2 zeros are read as 1 unless 3 are lost; all of 3 to 6 are borne, and 6 is the greatest.
    WireLamps lamps = new WireLamps();
    lamps.set(0, 2);
    for (int lamp = 0; lamp < 8; lamp++) {
      lamps.loss(lamp, 3);
    }
    for (int lamp = 0; lamp < 8; lamp++) {
      Due.is("limit 2: bears(" + lamp + ")", lamps.bears(lamp), 6);
    }
    lamps.loss(5, 0);
    Due.is("the loss of now is replaced", lamps.bears(5), 6);
    Due.is("and stays in the row", lamps.lampOf(5, 1), 0);
    Due.is("it is not borne by the others", lamps.bears(4), NONE);
  }

  /** The greatest loss, told by setting each of them and asking wrong(). */
  private static int greatestByWrong(WireLamps lamps, int lamp) {
    for (int loss = 6; loss >= 0; loss--) {
      lamps.loss(lamp, loss);
      if (lamps.wrong(1365) == 0 && lamps.wrong(2730) == 0) {
        return loss;
      }
    }
    return NONE;
  }

  private static void asWrongTells() {
    for (int i = 0; i < 600; i++) {
      for (int lamp = 0; lamp < 8; lamp++) {
        WireLamps lamps = new WireLamps();
        lamps.set(0, 2 + i % 11);
        lamps.set(1, i / 11 % 2);
        for (int other = 0; other < 8; other++) {
          lamps.loss(other, i / 22 % 4 * ((i / 88 + other) % 3) / 2);
        }
        if (i % 17 == 0) {
          lamps.mode((i + lamp) % 8, i % 4);
        }
        int told = lamps.bears(lamp);
        Due.is("mix " + i + ": bears(" + lamp + ")", told, greatestByWrong(lamps, lamp));
      }
    }
  }

  private static void forAllLamps() {
    WireLamps lamps = new WireLamps();
    lamps.set(1, 0);
    Due.is("nothing made anew: the loss of the lamp 0 tells on all", lamps.bears(0), 2);
    lamps.loss(7, 1);
    Due.is("the last lamp bears less", lamps.bears(0), 1);
    lamps.loss(7, 2);
    Due.is("the last lamp bears nothing more", lamps.bears(0), 0);
    lamps.loss(7, 3);
    Due.is("the last lamp reads wrong by itself", lamps.bears(0), NONE);
    Due.is("its own wire bears 2", lamps.bears(7), 2);
    lamps.loss(0, 3);
    Due.is("the lamp 0 reads wrong, whatever the last wire is", lamps.bears(7), NONE);
  }

  private static void noLossIsBorne() {
    for (int limit : new int[] {2, 3, 4, 9, 12}) {
      WireLamps lamps = new WireLamps();
      lamps.set(0, limit);
      for (int lamp = 0; lamp < 8; lamp++) {
        Due.is("limit " + limit + ": bears(" + lamp + ")", lamps.bears(lamp), NONE);
      }
    }
    for (int mode = 1; mode <= 3; mode++) {
      for (int other = 0; other < 8; other++) {
        WireLamps lamps = new WireLamps();
        lamps.mode(other, mode);
        for (int lamp = 0; lamp < 8; lamp++) {
          Due.is("mode " + mode + " of " + other + ": bears(" + lamp + ")", lamps.bears(lamp), NONE);
        }
      }
    }
  }

  // ---- promise 23: brokenAt

  private static void promise23() {
    Due.holds("Promise 23", "Returns the first lamp to which no pulse would come, if eight words were sent with a gap",
        ForecastEdgeTest::firstWithoutPulses);
    Due.holds("Promise 23", "NONE if some come to all.", ForecastEdgeTest::someComeToAll);
  }

  private static void firstWithoutPulses() {
    for (int broken = 0; broken < 7; broken++) {
      WireLamps lamps = new WireLamps();
      lamps.mode(broken, 2);
      Due.is("the lamp " + broken + " is broken", lamps.brokenAt(), broken + 1);
      lamps.mode(7, 2);
      lamps.mode(6, 2);
      Due.is("others behind it do not matter", lamps.brokenAt(), broken + 1);
    }
    for (int number = 0; number < ROWS; number++) {
      WireLamps lamps = row(number);
      int told = lamps.brokenAt();
      Due.sendTimes(lamps, 0, 8);
      lamps.gap();
      int first = NONE;
      for (int lamp = 7; lamp >= 0; lamp--) {
        first = lamps.lampOf(lamp, 7) == 0 ? lamp : first;
      }
      Due.is("row " + number, told, first);
    }
  }

  private static void someComeToAll() {
    WireLamps lamps = new WireLamps();
    Due.is("a new row", lamps.brokenAt(), NONE);
    lamps.mode(7, 2);
    Due.is("the last lamp alone is broken", lamps.brokenAt(), NONE);
    lamps.mode(7, 0);
    lamps.gap();
    Due.is("no pulse came at the last gap", lamps.brokenAt(), NONE);
    for (int mode : new int[] {1, 3}) {
      for (int lamp = 0; lamp < 8; lamp++) {
        lamps.mode(lamp, mode);
        lamps.loss(lamp, 6);
      }
      Due.is("all lamps are of the mode " + mode, lamps.brokenAt(), NONE);
    }
    lamps.mode(2, 2);
    lamps.mode(2, 0);
    Due.is("a mended lamp", lamps.brokenAt(), NONE);
  }

  // ---- promise 24: wordsTo

  private static void promise24() {
    Due.holds("Promise 24", "Returns the fewest words of a frame with which this lamp takes a word",
        ForecastEdgeTest::fewestWords);
    Due.holds("Promise 24", "NONE if it takes none, however many are sent.", ForecastEdgeTest::takesNone);
    Due.holds("Promise 24", "`lamp`: 0 to 7", () -> {
      WireLamps lamps = new WireLamps();
      Due.is("wordsTo(0)", lamps.wordsTo(0), 1);
      Due.is("wordsTo(7)", lamps.wordsTo(7), 8);
    });
    Due.holds("Promise 24", "Throws `IndexOutOfBoundsException` if there is no such lamp", () -> {
      WireLamps lamps = new WireLamps();
      for (int lamp : Made.NO_LAMPS) {
        Due.refuses(lamps, "wordsTo(" + lamp + ")", INDEX, () -> lamps.wordsTo(lamp));
      }
    });
  }

  private static void fewestWords() {
    WireLamps lamps = new WireLamps();
    for (int lamp = 0; lamp < 8; lamp++) {
      Due.is("wordsTo(" + lamp + ")", lamps.wordsTo(lamp), lamp + 1);
    }
    for (int lamp = 0; lamp < 7; lamp++) {
      lamps.mode(lamp, 3);
    }
    Due.is("past seven bridges", lamps.wordsTo(7), 1);
    // The words of a frame that is there already do not matter, nor do losses.
    lamps.loss(7, 6);
    Due.sendTimes(lamps, 1, 3);
    Due.is("with a frame", lamps.wordsTo(7), 1);
    for (int number = 0; number < ROWS; number++) {
      for (int lamp = 0; lamp < 8; lamp += lamp == 3 ? 4 : 1) {
        Due.is("row " + number + ": wordsTo(" + lamp + ")", row(number).wordsTo(lamp), fewestBySending(number, lamp));
      }
    }
  }

  /** Sends one word more, until the lamp, which knows 0, knows another. */
  private static int fewestBySending(int number, int lamp) {
    for (int words = 1; words <= 10; words++) {
      WireLamps lamps = row(number);
      Due.sendTimes(lamps, 4095, words);
      lamps.gap();
      if (lamps.lampOf(lamp, 2) == 4095) {
        return words;
      }
    }
    return NONE;
  }

  private static void takesNone() {
    for (int broken = 0; broken < 8; broken++) {
      WireLamps lamps = new WireLamps();
      lamps.mode(broken, 2);
      for (int lamp = 0; lamp < 8; lamp++) {
        Due.is("broken " + broken + ": wordsTo(" + lamp + ")", lamps.wordsTo(lamp), lamp < broken ? lamp + 1 : NONE);
      }
      lamps.mode(broken, 3);
      for (int lamp = 0; lamp < 8; lamp++) {
        int due = lamp == broken ? NONE : lamp < broken ? lamp + 1 : lamp;
        Due.is("bridged " + broken + ": wordsTo(" + lamp + ")", lamps.wordsTo(lamp), due);
      }
      lamps.mode(broken, 1);
      Due.is("a dark lamp takes one", lamps.wordsTo(broken), broken + 1);
    }
  }

  // ---- promise 25: brightness

  private static void promise25() {
    Due.holds("Promise 25", "Returns count(7) as a double, divided by 360.", () -> {
      Due.isDouble("nothing shines", new WireLamps().brightness(), 0.0);
      Due.isDouble("the least", oneColour(1).brightness(), 1.0 / 360.0);
      Due.isDouble("15 of 360", oneColour(15).brightness(), 15.0 / 360.0);
      WireLamps all = Made.knowing(0xfff);
      Due.isDouble("all", all.brightness(), 1.0);
      all.set(2, 359);
      Due.isDouble("all but one", all.brightness(), 336.0 / 360.0);
      all.set(2, 0);
      Due.isDouble("without current", all.brightness(), 0.0);
    });
  }

  private static WireLamps oneColour(int brightness) {
    WireLamps lamps = new WireLamps();
    lamps.send(brightness);
    lamps.gap();
    return lamps;
  }

  // ---- promise 26: digest

  private static void promise26() {
    Due.holds("Promise 26", "The hash starts at 3517.", () -> {
      WireLamps lamps = new WireLamps();
      Due.is("digest() of a new row", lamps.digest(), digestOfNewRow());
    });
    Due.holds("Promise 26", "for each slot 1 if it has a snapshot, otherwise 0", () -> {
      for (int kept = 0; kept < 4; kept++) {
        WireLamps lamps = new WireLamps();
        for (int slot = 0; slot < 2; slot++) {
          if ((kept >> slot & 1) == 1) {
            lamps.keep(slot);
          }
        }
        long due = ForecastTest.digestOf(lamps, (kept & 1) == 1, kept >= 2, "");
        Due.is("slots " + kept, lamps.digest(), due);
      }
    });
    Due.holds("Promise 26", "the length of the buffer and each of its character codes", () -> {
      for (String text : new String[] {"", "!", "~", "0!", "f".repeat(59), "f".repeat(60)}) {
        WireLamps lamps = Made.withText(text);
        Due.is("buffer " + text, lamps.digest(), ForecastTest.digestOf(lamps, false, false, text));
      }
    });
    Due.holds("Promise 26", "each pulse of the frame", () -> {
      for (int pulses : new int[] {0, 1, 119, 120}) {
        WireLamps lamps = Made.withPulses(pulses);
        Due.is(pulses + " pulses", lamps.digest(), ForecastTest.digestOf(lamps, false, false, ""));
        lamps.drop();
        Due.is(pulses + " pulses, dropped", lamps.digest(), ForecastTest.digestOf(lamps, false, false, ""));
      }
    });
    Due.holds("Promise 26",
        "for each lamp its properties 0 to 7, ifGap with 0, then with 1, bears, and wordsTo", () -> {
      for (int number = 0; number < ROWS; number += 5) {
        WireLamps lamps = row(number);
        Due.sendTimes(lamps, 0x9c6, 5);
        lamps.gap();
        lamps.send(0x333);
        Due.is("row " + number, lamps.digest(), ForecastTest.digestOf(lamps, false, false, ""));
      }
    });
    Due.holds("Promise 26", "count(0) to count(10); the settings 0 to 2", () -> {
      WireLamps lamps = Made.withAll();
      int zeros = 0;
      for (int what = 0; what <= 10; what++) {
        zeros += lamps.count(what) == 0 ? 1 : 0;
      }
      Due.is("numbers that are 0", zeros, 0);
      Due.is("digest()", lamps.digest(), ForecastTest.digestOf(lamps, true, true, "0f9,!x"));
    });
    Due.holds("Promise 26", "wrong of 1365 and of 4095", () -> {
      WireLamps lamps = new WireLamps();
      lamps.set(0, 4);
      Due.is("zeros are read as 1: wrong(1365)", lamps.wrong(1365), 255);
      Due.is("wrong(4095)", lamps.wrong(4095), 0);
      Due.is("digest()", lamps.digest(), ForecastTest.digestOf(lamps, false, false, ""));
      // Behind a broken lamp those alone shine right that know the very word.
      for (int word : new int[] {1364, 1365, 1366, 2730, 4094, 4095}) {
        WireLamps broken = Made.knowing(word);
        broken.mode(0, 2);
        Due.is("known " + word + ": wrong(1365)", broken.wrong(1365), word == 1365 ? 1 : 255);
        Due.is("known " + word + ": wrong(4095)", broken.wrong(4095), word == 4095 ? 1 : 255);
        Due.is("known " + word, broken.digest(), ForecastTest.digestOf(broken, false, false, ""));
      }
    });
    Due.holds("Promise 26", "brokenAt", () -> {
      for (int broken = 0; broken < 8; broken++) {
        WireLamps lamps = new WireLamps();
        lamps.mode(broken, 2);
        Due.is("broken " + broken, lamps.digest(), ForecastTest.digestOf(lamps, false, false, ""));
      }
    });
    Due.holds("Promise 26", "the bits of brightness (as Double.doubleToLongBits)", () -> {
      for (int words = 0; words <= 8; words++) {
        WireLamps lamps = new WireLamps();
        Due.sendTimes(lamps, 0xfff, words);
        lamps.gap();
        Due.is(words + " words", lamps.digest(), ForecastTest.digestOf(lamps, false, false, ""));
        lamps.set(2, 7 * words);
        Due.is(words + " words, less current", lamps.digest(), ForecastTest.digestOf(lamps, false, false, ""));
      }
      WireLamps least = oneColour(1);
      Due.is("the least", least.digest(), ForecastTest.digestOf(least, false, false, ""));
    });
    Due.holds("Promise 26", "in long arithmetic with overflow", () -> {
      WireLamps lamps = Made.withAll();
      Due.is("digest()", lamps.digest(), ForecastTest.digestOf(lamps, true, true, "0f9,!x"));
      Due.is("again", lamps.digest(), ForecastTest.digestOf(lamps, true, true, "0f9,!x"));
    });
  }

  /** The list of the document for a new row, written out. */
  private static long digestOfNewRow() {
    long hash = 3517;
    for (int what = 0; what <= 10; what++) {
      hash = 31 * hash;
    }
    hash = 31 * hash + 6;
    hash = 31 * hash + 1;
    hash = 31 * hash + 360;
    for (int lamp = 0; lamp < 8; lamp++) {
      for (int zero = 0; zero < 10; zero++) {
        hash = 31 * hash;
      }
      hash = 31 * hash + 2;
      hash = 31 * hash + lamp + 1;
    }
    // Nothing is wrong, the row is not broken, nothing shines; two slots and the buffer are empty.
    hash = 31 * (31 * hash);
    hash = 31 * hash - 1;
    return 31 * (31 * (31 * (31 * hash)));
  }
}
