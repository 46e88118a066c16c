/** The edges that the document names under "Terms", from the row to the settings, sentence by sentence. */
final class TermsEdgeTest {
  private static final Class<IndexOutOfBoundsException> INDEX = IndexOutOfBoundsException.class;
  private static final Class<IllegalArgumentException> ARGUMENT = IllegalArgumentException.class;

  public static void main(String[] args) {
    row();
    pulses();
    gap();
    colours();
    settings();
    Due.end();
  }

  // ---- the row

  private static void row() {
    Due.holds("The row", "There are 8 lamps in a row, numbered from 0.", TermsEdgeTest::eightLamps);
    Due.holds("The row", "Ahead of each lamp is a piece of wire with a loss", TermsEdgeTest::wireAhead);
    Due.holds("The row", "0 to 6, at first 0", TermsEdgeTest::rangeOfLoss);
    Due.holds("The row", "A lamp is good (0), as at first, dark (1), broken (2), or bridged (3).",
        TermsEdgeTest::kinds);
    Due.holds("The row", "A lamp knows a word of 12 bits, at first 0, and shines by one, at first 0.",
        TermsEdgeTest::wordOfLamp);
  }

  private static void eightLamps() {
    WireLamps lamps = new WireLamps();
    for (int lamp : Made.NO_LAMPS) {
      Due.refuses(lamps, "mode of " + lamp, INDEX, () -> lamps.mode(lamp, 0));
      Due.refuses(lamps, "loss of " + lamp, INDEX, () -> lamps.loss(lamp, 0));
      Due.refuses(lamps, "lampOf of " + lamp, INDEX, () -> lamps.lampOf(lamp, 0));
      Due.refuses(lamps, "ifGap of " + lamp, INDEX, () -> lamps.ifGap(lamp, 0));
      Due.refuses(lamps, "bears of " + lamp, INDEX, () -> lamps.bears(lamp));
      Due.refuses(lamps, "wordsTo of " + lamp, INDEX, () -> lamps.wordsTo(lamp));
    }
    for (int word = 1; word <= 9; word++) {
      lamps.send(word);
    }
    Due.is("eight lamps take a word each", lamps.gap(), 8);
    for (int lamp = 0; lamp < 8; lamp++) {
      Due.is("lampOf(" + lamp + ", 2)", lamps.lampOf(lamp, 2), lamp + 1);
    }
  }

  private static void wireAhead() {
    for (int worn = 0; worn < 8; worn++) {
      WireLamps lamps = new WireLamps();
      lamps.loss(worn, 6);
      Due.sendTimes(lamps, 4095, 8);
      lamps.gap();
      for (int lamp = 0; lamp < 8; lamp++) {
        Due.is("loss ahead of " + worn + ": the lamp " + lamp, lamps.lampOf(lamp, 2), lamp < worn ? 4095 : 0);
      }
    }
  }

  private static void rangeOfLoss() {
    WireLamps lamps = new WireLamps();
    for (int lamp = 0; lamp < 8; lamp++) {
      int here = lamp;
      Due.is("lampOf(" + lamp + ", 1) at first", lamps.lampOf(lamp, 1), 0);
      Due.refuses(lamps, "loss(" + lamp + ", 7)", ARGUMENT, () -> lamps.loss(here, 7));
      Due.refuses(lamps, "loss(" + lamp + ", -1)", ARGUMENT, () -> lamps.loss(here, -1));
      Due.is("loss(" + lamp + ", 6)", lamps.loss(lamp, 6), 0);
      Due.is("loss(" + lamp + ", 0)", lamps.loss(lamp, 0), 6);
    }
  }

  private static void kinds() {
    WireLamps lamps = Made.knowing(0xfff);
    int[] shines = {0xfff, 0, 0, 0};
    int[] toNext = {84, 84, 0, 96};
    for (int mode = 0; mode <= 3; mode++) {
      Due.is("the mode ahead of " + mode, lamps.mode(0, mode), mode == 0 ? 0 : mode - 1);
      Due.sendTimes(lamps, 0xfff, 8);
      lamps.gap();
      Due.is("mode " + mode + " shines by", lamps.lampOf(0, 3), shines[mode]);
      Due.is("mode " + mode + " hands on", lamps.lampOf(1, 7), toNext[mode]);
    }
    for (int lamp = 1; lamp < 8; lamp++) {
      Due.is("lampOf(" + lamp + ", 0) as at first", lamps.lampOf(lamp, 0), 0);
    }
  }

  private static void wordOfLamp() {
    WireLamps lamps = new WireLamps();
    for (int lamp = 0; lamp < 8; lamp++) {
      Due.is("knows at first", lamps.lampOf(lamp, 2), 0);
      Due.is("shines at first", lamps.lampOf(lamp, 3), 0);
    }
    Due.sendTimes(lamps, 4095, 8);
    lamps.gap();
    for (int lamp = 0; lamp < 8; lamp++) {
      Due.is("knows all twelve bits", lamps.lampOf(lamp, 2), 4095);
      Due.is("shines by all twelve bits", lamps.lampOf(lamp, 3), 4095);
    }
  }

  // ---- pulses

  private static void pulses() {
    Due.holds("Pulses", "A pulse has a length, 1 to 20.", TermsEdgeTest::lengths);
    Due.holds("Pulses", "The frame is a row of at most 120 pulses", TermsEdgeTest::fullFrame);
    Due.holds("Pulses", "at first without any", () -> {
      Due.is("count(0)", new WireLamps().count(0), 0);
      Due.is("pulseAt(0)", new WireLamps().pulseAt(0), WireLamps.NONE);
    });
    Due.holds("Pulses", "By a piece of wire each pulse becomes shorter by its loss", TermsEdgeTest::shorterByLoss);
    Due.holds("Pulses", "but at least 1", TermsEdgeTest::atLeast1);
    Due.holds("Pulses", "A pulse is read as 1 if its length is at least setting 0, otherwise as 0.",
        TermsEdgeTest::readAs1);
  }

  private static void lengths() {
    WireLamps lamps = new WireLamps();
    Due.refuses(lamps, "pulse(0)", ARGUMENT, () -> lamps.pulse(0));
    Due.refuses(lamps, "pulse(21)", ARGUMENT, () -> lamps.pulse(21));
    for (int length = 1; length <= 20; length++) {
      Due.is("pulse(" + length + ")", lamps.pulse(length), length);
      Due.is("pulseAt", lamps.pulseAt(length - 1), length);
    }
    // 20 - 6 - 2 is 12, and 19 - 6 - 2 is not.
    WireLamps longest = new WireLamps();
    longest.mode(0, 3);
    longest.loss(0, 6);
    longest.loss(1, 2);
    longest.set(0, 12);
    Made.addTurns(longest, 20, 19);
    longest.gap();
    Due.is("the longest pulses", longest.lampOf(1, 2), 0xaaa);
    WireLamps shortest = new WireLamps();
    shortest.set(0, 2);
    Made.addTurns(shortest, 2, 1);
    shortest.gap();
    Due.is("the shortest pulses", shortest.lampOf(0, 2), 0xaaa);
  }

  private static void fullFrame() {
    WireLamps lamps = Made.withPulses(119);
    Due.is("the 120th pulse", lamps.pulse(9), 120);
    Due.is("pulseAt(119)", lamps.pulseAt(119), 9);
    Due.is("the 121st pulse", lamps.pulse(10), WireLamps.NONE);
    Due.is("a word more", lamps.send(0), WireLamps.NONE);
    Due.write(lamps, "000");
    Due.is("a text more", lamps.load(), WireLamps.NONE);
    Due.is("count(0)", lamps.count(0), 120);
    Due.is("pulseAt(119) is as before", lamps.pulseAt(119), 9);
    Due.is("pulseAt(120)", lamps.pulseAt(120), WireLamps.NONE);
    lamps.gap();
    Due.is("120 pulses come to the lamp 0", lamps.lampOf(0, 7), 120);
    Due.is("room is behind a gap", lamps.pulse(1), 1);
  }

  private static void shorterByLoss() {
    for (int loss = 0; loss <= 6; loss++) {
      WireLamps lamps = new WireLamps();
      lamps.loss(0, loss);
      Made.addTurns(lamps, 6 + loss, 5 + loss);
      lamps.gap();
      Due.is("the loss " + loss, lamps.lampOf(0, 2), 0xaaa);
    }
    // The losses of three pieces add up where nothing is made anew: 20 - 4 - 5 - 5 is 6.
    WireLamps lamps = new WireLamps();
    lamps.mode(0, 3);
    lamps.mode(1, 3);
    lamps.loss(0, 4);
    lamps.loss(1, 5);
    lamps.loss(2, 5);
    Made.addTurns(lamps, 20, 19);
    lamps.gap();
    Due.is("three losses", lamps.lampOf(2, 2), 0xaaa);
  }

  private static void atLeast1() {
    WireLamps lamps = new WireLamps();
    lamps.set(0, 2);
    lamps.loss(0, 6);
    Made.addTurns(lamps, 8, 7);
    lamps.gap();
    Due.is("8 - 6 and 7 - 6", lamps.lampOf(0, 2), 0xaaa);
    Made.addTurns(lamps, 8, 1);
    lamps.gap();
    Due.is("8 - 6 and 1 - 6, at least 1", lamps.lampOf(0, 2), 0xaaa);
    // A pulse stays a pulse, however much is lost.
    for (int lamp = 0; lamp < 8; lamp++) {
      lamps.loss(lamp, 6);
      lamps.mode(lamp, lamp < 7 ? 3 : 0);
    }
    for (int i = 0; i < 12; i++) {
      lamps.pulse(1);
    }
    lamps.gap();
    for (int lamp = 0; lamp < 8; lamp++) {
      Due.is("pulses of 1 come to " + lamp, lamps.lampOf(lamp, 7), 12);
    }
    Due.is("twelve of them are taken", lamps.count(3), 36);
    Due.is("and read as 0", lamps.lampOf(7, 2), 0);
  }

  private static void readAs1() {
    for (int limit = 2; limit <= 12; limit++) {
      WireLamps lamps = new WireLamps();
      lamps.set(0, limit);
      Made.addTurns(lamps, limit, limit - 1);
      Made.addTurns(lamps, 1, 20);
      lamps.gap();
      Due.is("setting 0 as " + limit + ": beside it", lamps.lampOf(0, 2), 0xaaa);
    }
  }

  // ---- a gap

  private static void gap() {
    Due.holds("A gap", "At a gap the pulses of the frame go through the row, from the lamp 0 on",
        TermsEdgeTest::fromLamp0);
    Due.holds("A gap", "behind it the frame has no pulses", TermsEdgeTest::noPulsesBehind);
    Due.holds("A gap", "A good or a dark lamp to which at least 12 pulses come takes the first 12 of them",
        TermsEdgeTest::takesFirst12);
    Due.holds("A gap", "they are read, the first one as the highest bit, and are the word that it knows from now on",
        TermsEdgeTest::firstIsHighest);
    Due.holds("A gap", "The others it hands on", TermsEdgeTest::handsOnOthers);
    Due.holds("A gap", "a pulse that it reads as 1 is handed on with the length 8", TermsEdgeTest::anewAs8);
    Due.holds("A gap", "one that it reads as 0 with the length 4", TermsEdgeTest::anewAs4);
    Due.holds("A gap", "with setting 1 as 0 it hands them on as they are", TermsEdgeTest::asTheyAre);
    Due.holds("A gap", "If fewer than 12 pulses come to it, it keeps the word that it knows, and hands nothing on.",
        TermsEdgeTest::fewerThan12);
    Due.holds("A gap", "A broken lamp hands nothing on, and keeps the word that it knows.", TermsEdgeTest::broken);
    Due.holds("A gap", "A bridged lamp hands all on as they are, and keeps the word that it knows.",
        TermsEdgeTest::bridged);
    Due.holds("A gap", "Then each good lamp shines by the word that it knows; all others shine by the word 0.",
        TermsEdgeTest::shine);
  }

  private static void fromLamp0() {
    WireLamps lamps = new WireLamps();
    lamps.send(1);
    lamps.gap();
    Due.is("one word is the lamp 0's", lamps.lampOf(0, 2), 1);
    Due.is("and not the lamp 7's", lamps.lampOf(7, 2), 0);
    for (int word = 1; word <= 10; word++) {
      lamps.send(word * 0x111);
    }
    lamps.gap();
    for (int lamp = 0; lamp < 8; lamp++) {
      Due.is("the lamp " + lamp, lamps.lampOf(lamp, 2), (lamp + 1) * 0x111);
    }
  }

  private static void noPulsesBehind() {
    for (int mode = 0; mode <= 3; mode++) {
      for (int pulses : new int[] {0, 1, 11, 12, 120}) {
        WireLamps lamps = Made.withPulses(pulses);
        for (int lamp = 0; lamp < 8; lamp++) {
          lamps.mode(lamp, mode);
        }
        lamps.gap();
        Due.is("mode " + mode + ", " + pulses + " pulses: count(0)", lamps.count(0), 0);
        Due.is("mode " + mode + ", " + pulses + " pulses: pulseAt(0)", lamps.pulseAt(0), WireLamps.NONE);
        Due.is("the next pulse is the first", lamps.pulse(3), 1);
      }
    }
  }

  private static void takesFirst12() {
    for (int mode = 0; mode <= 1; mode++) {
      for (int pulses = 12; pulses <= 14; pulses++) {
        WireLamps lamps = new WireLamps();
        lamps.mode(0, mode);
        lamps.send(0x801);
        for (int i = 12; i < pulses; i++) {
          lamps.pulse(20);
        }
        lamps.gap();
        Due.is("mode " + mode + " of " + pulses + " pulses knows", lamps.lampOf(0, 2), 0x801);
        Due.is("mode " + mode + " of " + pulses + " pulses hands on", lamps.lampOf(1, 7), pulses - 12);
        Due.is("mode " + mode + " of " + pulses + " pulses: taken", lamps.count(3), 12);
      }
    }
  }

  private static void firstIsHighest() {
    WireLamps lamps = new WireLamps();
    for (int place = 0; place < 12; place++) {
      for (int i = 0; i < 12; i++) {
        lamps.pulse(i == place ? 6 : 5);
      }
      lamps.gap();
      Due.is("the pulse " + place + " alone is long", lamps.lampOf(0, 2), 1 << (11 - place));
    }
    lamps.gap();
    Due.is("known from now on", lamps.lampOf(0, 2), 1);
  }

  private static void handsOnOthers() {
    WireLamps lamps = Made.withPulses(120);
    lamps.mode(3, 1);
    lamps.gap();
    for (int lamp = 0; lamp < 8; lamp++) {
      Due.is("come to " + lamp, lamps.lampOf(lamp, 7), 120 - 12 * lamp);
    }
    Due.is("lost behind the last lamp", lamps.count(4), 24);
  }

  /** What the lamp 1 reads of pulses of this length behind the lamp 0, which takes a word. */
  private static int readBehindTaker(int anew, int limit, int length) {
    WireLamps lamps = new WireLamps();
    lamps.set(0, limit);
    lamps.set(1, anew);
    for (int i = 0; i < 24; i++) {
      lamps.pulse(length);
    }
    lamps.gap();
    return lamps.lampOf(1, 2);
  }

  private static void anewAs8() {
    for (int length : new int[] {9, 20}) {
      Due.is(length + " is handed on as at least 8", readBehindTaker(1, 8, length), 4095);
      Due.is(length + " is handed on as less than 9", readBehindTaker(1, 9, length), 0);
    }
    Due.is("what is just read as 1 is handed on longer", readBehindTaker(1, 2, 2), 4095);
    // Each lamp makes them anew: 8 - 2 is read as 1 at all eight.
    WireLamps lamps = new WireLamps();
    for (int lamp = 0; lamp < 8; lamp++) {
      lamps.loss(lamp, 2);
    }
    Due.sendTimes(lamps, 4095, 8);
    lamps.gap();
    Due.is("eight losses of 2", lamps.lampOf(7, 2), 4095);
  }

  private static void anewAs4() {
    for (int length = 1; length <= 3; length++) {
      Due.is(length + " is handed on as at least 4", readBehindTaker(1, 4, length), 4095);
      Due.is(length + " is handed on as less than 5", readBehindTaker(1, 5, length), 0);
    }
    Due.is("11, which is read as 0, is handed on as 4", readBehindTaker(1, 12, 11), 0);
  }

  private static void asTheyAre() {
    for (int limit = 2; limit <= 12; limit++) {
      Due.is("the limit's length stays", readBehindTaker(0, limit, limit), 4095);
      Due.is("one less stays, too", readBehindTaker(0, limit, limit - 1), 0);
    }
    // Through seven lamps that take words, with a loss each: 20 - 8 is 12, 19 - 8 is not.
    WireLamps lamps = new WireLamps();
    lamps.set(0, 12);
    lamps.set(1, 0);
    for (int lamp = 0; lamp < 8; lamp++) {
      lamps.loss(lamp, 1);
    }
    Due.sendTimes(lamps, 0, 7);
    Made.addTurns(lamps, 20, 19);
    lamps.gap();
    Due.is("the last lamp", lamps.lampOf(7, 2), 0xaaa);
  }

  private static void fewerThan12() {
    for (int mode = 0; mode <= 1; mode++) {
      for (int pulses : new int[] {0, 1, 11}) {
        WireLamps lamps = Made.knowing(0xfed);
        lamps.mode(0, mode);
        lamps.mode(3, mode);
        Made.addPulses(lamps, pulses);
        lamps.gap();
        Due.is("mode " + mode + ", " + pulses + " pulses: known", lamps.lampOf(0, 2), 0xfed);
        Due.is("mode " + mode + ", " + pulses + " pulses: came", lamps.lampOf(0, 7), pulses);
        Due.is("mode " + mode + ", " + pulses + " pulses: handed on", lamps.lampOf(1, 7), 0);
        Due.is("mode " + mode + ", " + pulses + " pulses: taken", lamps.count(3), 96);
        Due.is("mode " + mode + ", " + pulses + " pulses: lost", lamps.count(4), pulses);
        Made.addPulses(lamps, 36 + pulses);
        lamps.gap();
        Due.is("the lamp 2 takes the last word", lamps.lampOf(2, 2), 0);
        Due.is("the lamp 3 keeps its word", lamps.lampOf(3, 2), 0xfed);
        Due.is("so many came to it", lamps.lampOf(3, 7), pulses);
        Due.is("none came behind it", lamps.lampOf(4, 7), 0);
      }
    }
  }

  private static void broken() {
    for (int pulses : new int[] {11, 12, 120}) {
      WireLamps lamps = Made.knowing(0xfed);
      lamps.mode(0, 2);
      Made.addPulses(lamps, pulses);
      lamps.gap();
      Due.is(pulses + " pulses: known", lamps.lampOf(0, 2), 0xfed);
      Due.is(pulses + " pulses: came", lamps.lampOf(0, 7), pulses);
      Due.is(pulses + " pulses: handed on", lamps.lampOf(1, 7), 0);
      Due.is(pulses + " pulses: lost", lamps.count(4), pulses);
      Due.is(pulses + " pulses: the lamp behind it keeps its word", lamps.lampOf(1, 2), 0xfed);
    }
  }

  private static void bridged() {
    for (int pulses : new int[] {0, 1, 11, 12, 120}) {
      WireLamps lamps = Made.knowing(0xfed);
      for (int lamp = 0; lamp < 8; lamp++) {
        lamps.mode(lamp, 3);
      }
      Made.addPulses(lamps, pulses);
      Due.is(pulses + " pulses: gap()", lamps.gap(), 0);
      for (int lamp = 0; lamp < 8; lamp++) {
        Due.is(pulses + " pulses: the lamp " + lamp + " keeps its word", lamps.lampOf(lamp, 2), 0xfed);
        Due.is(pulses + " pulses: come to " + lamp, lamps.lampOf(lamp, 7), pulses);
      }
      Due.is(pulses + " pulses: lost", lamps.count(4), pulses);
    }
    // Pulses of 12 and 3 are not made anew as 8 and 4, though setting 1 is 1.
    WireLamps lamps = new WireLamps();
    lamps.mode(0, 3);
    lamps.set(0, 12);
    Made.addTurns(lamps, 12, 11);
    lamps.gap();
    Due.is("12 behind a bridge", lamps.lampOf(1, 2), 0xaaa);
    lamps.set(0, 4);
    Made.addTurns(lamps, 4, 3);
    lamps.gap();
    Due.is("3 behind a bridge", lamps.lampOf(1, 2), 0xaaa);
  }

  private static void shine() {
    WireLamps lamps = Made.knowing(0xfed);
    for (int lamp = 0; lamp < 8; lamp++) {
      lamps.mode(lamp, lamp % 4);
    }
    for (int lamp = 0; lamp < 8; lamp++) {
      Due.is("ahead of the gap: " + lamp, lamps.lampOf(lamp, 3), 0xfed);
    }
    lamps.gap();
    for (int lamp = 0; lamp < 8; lamp++) {
      Due.is("behind a gap without pulses: " + lamp, lamps.lampOf(lamp, 3), lamp % 4 == 0 ? 0xfed : 0);
      lamps.mode(lamp, 0);
    }
    lamps.gap();
    for (int lamp = 0; lamp < 8; lamp++) {
      Due.is("all good again: " + lamp, lamps.lampOf(lamp, 3), 0xfed);
    }
  }

  // ---- colours, current

  private static void colours() {
    Due.holds("Colours", "A word has three colours: 0: the bits 11 to 8; 1: the bits 7 to 4; 2: the bits 3 to 0",
        TermsEdgeTest::bitsOfColours);
    Due.holds("Colours", "each is a brightness, 0 to 15, of which the highest bit counts 8", () -> {
      Due.is("no bit", Made.knowing(0x000).lampOf(0, 4), 0);
      Due.is("the highest bit", Made.knowing(0x800).lampOf(0, 4), 8);
      Due.is("all bits", Made.knowing(0xf00).lampOf(0, 4), 15);
    });
    Due.holds("Colours", "The current wanted is the brightness of all colours of all words by which lamps shine",
        TermsEdgeTest::currentWanted);
    Due.holds("Colours", "If it is above setting 2, each brightness that is shown is the brightness times setting 2, "
        + "divided by the current wanted", TermsEdgeTest::aboveSetting2);
    Due.holds("Colours", "otherwise it is shown as it is", TermsEdgeTest::notAboveSetting2);
    Due.holds("Terms", "divisions are rounded down", TermsEdgeTest::roundedDown);
  }

  private static void bitsOfColours() {
    for (int bit = 0; bit < 12; bit++) {
      WireLamps lamps = Made.knowing(1 << bit);
      for (int colour = 0; colour < 3; colour++) {
        int due = bit / 4 == 2 - colour ? 1 << (bit % 4) : 0;
        Due.is("the bit " + bit + " in the colour " + colour, lamps.lampOf(5, 4 + colour), due);
      }
    }
  }

  private static void currentWanted() {
    Due.is("nothing", new WireLamps().count(6), 0);
    Due.is("everything", Made.knowing(0xfff).count(6), 360);
    Due.is("1 + 2 + 4, eight times", Made.knowing(0x124).count(6), 56);
    WireLamps lamps = Made.knowing(0xfff);
    lamps.mode(0, 1);
    Due.is("it is wanted up to the gap", lamps.count(6), 360);
    lamps.gap();
    Due.is("a dark lamp wants none, though it knows a word", lamps.count(6), 315);
    lamps.set(2, 0);
    Due.is("what is wanted is not what there is", lamps.count(6), 315);
  }

  /** A row of which the lamp 0 alone shines, by f51: 21 are wanted. */
  private static WireLamps wanting21() {
    WireLamps lamps = new WireLamps();
    lamps.send(0xf51);
    lamps.gap();
    return lamps;
  }

  private static void shown(WireLamps lamps, int current, int red, int green, int blue) {
    lamps.set(2, current);
    Due.is("current " + current + ": colour 0", lamps.lampOf(0, 4), red);
    Due.is("current " + current + ": colour 1", lamps.lampOf(0, 5), green);
    Due.is("current " + current + ": colour 2", lamps.lampOf(0, 6), blue);
    Due.is("current " + current + ": together", lamps.count(7), red + green + blue);
  }

  private static void aboveSetting2() {
    WireLamps lamps = wanting21();
    shown(lamps, 20, 14, 4, 0);
    shown(lamps, 7, 5, 1, 0);
    shown(lamps, 1, 0, 0, 0);
    shown(lamps, 0, 0, 0, 0);
  }

  private static void notAboveSetting2() {
    WireLamps lamps = wanting21();
    shown(lamps, 21, 15, 5, 1);
    shown(lamps, 22, 15, 5, 1);
    shown(lamps, 360, 15, 5, 1);
    WireLamps none = new WireLamps();
    shown(none, 0, 0, 0, 0);
    shown(none, 1, 0, 0, 0);
    WireLamps all = Made.knowing(0xfff);
    Due.is("360 of 360", all.count(7), 360);
  }

  private static void roundedDown() {
    WireLamps lamps = Made.knowing(0xfff);
    lamps.set(2, 359);
    Due.is("15 * 359 / 360", lamps.lampOf(0, 4), 14);
    lamps.set(2, 336);
    Due.is("15 * 336 / 360 is 14 without a rest", lamps.lampOf(0, 4), 14);
    lamps.set(2, 335);
    Due.is("15 * 335 / 360", lamps.lampOf(0, 4), 13);
    lamps.set(2, 24);
    Due.is("15 * 24 / 360 is 1 without a rest", lamps.lampOf(0, 4), 1);
    lamps.set(2, 23);
    Due.is("15 * 23 / 360", lamps.lampOf(0, 4), 0);
    Due.is("each is rounded for itself", lamps.count(7), 0);
  }

  // ---- settings

  private static void settings() {
    Due.holds("Settings", "0: how long a pulse is that is read as 1, 2 to 12, at first 6",
        () -> range(0, 2, 12, 6));
    Due.holds("Settings", "1: whether pulses are made anew (1) or not (0), at first 1", () -> range(1, 0, 1, 1));
    Due.holds("Settings", "2: the current, 0 to 360, at first 360", () -> range(2, 0, 360, 360));
  }

  private static void range(int setting, int lowest, int highest, int first) {
    WireLamps lamps = new WireLamps();
    Due.is("at first", lamps.setting(setting), first);
    Due.is("set to the lowest", lamps.set(setting, lowest), first);
    Due.is("set to the highest", lamps.set(setting, highest), lowest);
    for (int value : new int[] {lowest - 1, highest + 1, Integer.MIN_VALUE, Integer.MAX_VALUE}) {
      Due.refuses(lamps, "set(" + setting + ", " + value + ")", ARGUMENT, () -> lamps.set(setting, value));
    }
    Due.is("it stays", lamps.setting(setting), highest);
  }
}
