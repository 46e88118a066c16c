/** The edges of the promises 5 to 8, sentence by sentence: pulse, send, gap, drop. */
final class FrameEdgeTest {
  private static final Class<IllegalArgumentException> ARGUMENT = IllegalArgumentException.class;
  private static final int MIN = Integer.MIN_VALUE;
  private static final int MAX = Integer.MAX_VALUE;

  public static void main(String[] args) {
    promise5();
    promise6();
    promise7();
    promise8();
    Due.end();
  }

  // ---- promise 5: pulse

  private static void promise5() {
    Due.holds("Promise 5", "Sends a pulse.", () -> {
      WireLamps lamps = new WireLamps();
      lamps.pulse(7);
      lamps.pulse(3);
      Due.is("the first", lamps.pulseAt(0), 7);
      Due.is("the second is behind it", lamps.pulseAt(1), 3);
      Due.is("there is no third", lamps.pulseAt(2), WireLamps.NONE);
      Due.is("pulses sent", lamps.count(2), 2);
    });
    Due.holds("Promise 5", "`length`: 1 to 20", () -> {
      for (int length = 1; length <= 20; length++) {
        WireLamps lamps = new WireLamps();
        Due.is("pulse(" + length + ")", lamps.pulse(length), 1);
        Due.is("pulseAt(0)", lamps.pulseAt(0), length);
      }
    });
    Due.holds("Promise 5", "Returns how many pulses the frame has then", () -> {
      WireLamps lamps = new WireLamps();
      for (int pulses = 1; pulses <= 120; pulses++) {
        Due.is("pulse()", lamps.pulse(20), pulses);
      }
      lamps.gap();
      Due.is("pulse() behind a gap", lamps.pulse(20), 1);
    });
    Due.holds("Promise 5", "NONE if it is refused, as it has 120", FrameEdgeTest::refusedPulse);
    Due.holds("Promise 5", "Undoable, also if it is refused.", FrameEdgeTest::undonePulse);
    Due.holds("Promise 5", "Throws `IllegalArgumentException` if length is out of range", () -> {
      int[] lengths = {0, 21, -1, MIN, MAX};
      for (WireLamps lamps : new WireLamps[] {new WireLamps(), Made.full()}) {
        for (int length : lengths) {
          Due.refuses(lamps, "pulse(" + length + ")", ARGUMENT, () -> lamps.pulse(length));
        }
        Due.is("it is no refusal", lamps.count(9), 0);
      }
    });
  }

  private static void refusedPulse() {
    WireLamps lamps = Made.withPulses(119);
    Due.is("pulse() to 119", lamps.pulse(20), 120);
    Due.is("none is refused", lamps.count(9), 0);
    for (int refused = 1; refused <= 3; refused++) {
      Due.is("pulse() to 120", lamps.pulse(1), WireLamps.NONE);
      Due.is("refused", lamps.count(9), refused);
      Due.is("frame", lamps.count(0), 120);
      Due.is("sent", lamps.count(2), 120);
      Due.is("its last pulse", lamps.pulseAt(119), 20);
    }
    lamps.drop();
    Due.is("pulse() to 0", lamps.pulse(1), 1);
  }

  private static void undonePulse() {
    WireLamps lamps = new WireLamps();
    lamps.pulse(5);
    Due.is("undo()", lamps.undo(), 0);
    Due.is("frame", lamps.count(0), 0);
    Due.is("sent", lamps.count(2), 0);
    WireLamps full = Made.full();
    full.pulse(5);
    Due.is("saved states behind a refusal", full.count(10), 2);
    Due.is("undo()", full.undo(), 1);
    Due.is("refusals", full.count(9), 0);
    Due.is("frame", full.count(0), 120);
  }

  // ---- promise 6: send

  private static void promise6() {
    Due.holds("Promise 6", "twelve pulses, from the highest bit on", () -> {
      for (int bit = 0; bit < 12; bit++) {
        WireLamps lamps = new WireLamps();
        lamps.send(1 << bit);
        for (int place = 0; place < 12; place++) {
          Due.is("bit " + bit + ", place " + place, lamps.pulseAt(place), place == 11 - bit ? 8 : 4);
        }
        Due.is("pulseAt(12)", lamps.pulseAt(12), WireLamps.NONE);
      }
    });
    Due.holds("Promise 6", "of the length 8 for 1 and 4 for 0", () -> {
      WireLamps lamps = new WireLamps();
      // Whatever is read as 1, what is sent is the same.
      lamps.set(0, 12);
      lamps.send(0);
      lamps.send(4095);
      for (int place = 0; place < 24; place++) {
        Due.is("pulseAt(" + place + ")", lamps.pulseAt(place), place < 12 ? 4 : 8);
      }
    });
    Due.holds("Promise 6", "`word`: 0 to 4095", () -> {
      for (int word : new int[] {0, 1, 2047, 2048, 4094, 4095}) {
        WireLamps lamps = new WireLamps();
        Due.is("send(" + word + ")", lamps.send(word), 12);
        lamps.gap();
        Due.is("the lamp 0 knows", lamps.lampOf(0, 2), word);
      }
    });
    Due.holds("Promise 6", "Returns how many pulses the frame has then", () -> {
      WireLamps lamps = Made.withPulses(5);
      Due.is("send() to 5", lamps.send(1), 17);
      Due.is("send() to 17", lamps.send(1), 29);
    });
    Due.holds("Promise 6", "NONE if it is refused, as it would have more than 120", FrameEdgeTest::refusedWord);
    Due.holds("Promise 6", "Undoable, also if it is refused.", FrameEdgeTest::undoneWord);
    Due.holds("Promise 6", "Throws `IllegalArgumentException` if word is out of range", () -> {
      int[] words = {-1, 4096, MIN, MAX};
      for (WireLamps lamps : new WireLamps[] {new WireLamps(), Made.full()}) {
        for (int word : words) {
          Due.refuses(lamps, "send(" + word + ")", ARGUMENT, () -> lamps.send(word));
        }
        Due.is("it is no refusal", lamps.count(9), 0);
      }
    });
  }

  private static void refusedWord() {
    Due.is("send() to 108", Made.withPulses(108).send(4095), 120);
    for (int pulses = 109; pulses <= 120; pulses++) {
      WireLamps lamps = Made.withPulses(pulses);
      Due.is("send() to " + pulses, lamps.send(4095), WireLamps.NONE);
      Due.is("refused", lamps.count(9), 1);
      Due.is("nothing of it is sent", lamps.count(0), pulses);
      Due.is("nor counted", lamps.count(2), pulses);
      Due.is("nor in the frame", lamps.pulseAt(pulses), WireLamps.NONE);
      Due.is("a pulse fits as before", lamps.pulse(1), pulses < 120 ? pulses + 1 : WireLamps.NONE);
    }
  }

  private static void undoneWord() {
    WireLamps lamps = Made.withPulses(1);
    lamps.send(4095);
    Due.is("one state is saved for twelve pulses", lamps.undo(), 1);
    Due.is("frame", lamps.count(0), 1);
    WireLamps full = Made.full();
    full.send(4095);
    Due.is("saved states behind a refusal", full.count(10), 2);
    Due.is("undo()", full.undo(), 1);
    Due.is("refusals", full.count(9), 0);
    Due.is("frame", full.count(0), 120);
  }

  // ---- promise 7: gap

  private static void promise7() {
    Due.holds("Promise 7", "Lets a gap be.", () -> {
      WireLamps lamps = new WireLamps();
      Due.is("a gap without pulses", lamps.gap(), 0);
      Due.is("is a gap", lamps.count(1), 1);
      lamps.send(0x5a5);
      lamps.gap();
      Due.is("two gaps", lamps.count(1), 2);
      Due.is("the lamp 0 knows", lamps.lampOf(0, 2), 0x5a5);
      Due.is("12 came", lamps.lampOf(0, 7), 12);
      lamps.gap();
      Due.is("none came", lamps.lampOf(0, 7), 0);
    });
    Due.holds("Promise 7", "Returns how many lamps know another word then than ahead of it.",
        FrameEdgeTest::howManyKnowAnother);
    Due.holds("Promise 7", "Undoable.", () -> {
      WireLamps lamps = aheadOfGap();
      lamps.gap();
      Due.is("one state is saved", lamps.count(10), 5);
      lamps.undo();
      Due.is("frame", lamps.count(0), 25);
      Due.is("gaps", lamps.count(1), 1);
      Due.is("taken", lamps.count(3), 24);
      Due.is("lost", lamps.count(4), 0);
      Due.is("the lamp 0 knows", lamps.lampOf(0, 2), 0x111);
      Due.is("the lamp 0 shines by", lamps.lampOf(0, 3), 0x111);
      Due.is("the dark lamp still shines", lamps.lampOf(1, 3), 0x222);
      Due.is("came to the lamp 0", lamps.lampOf(0, 7), 24);
      Due.areSame("all", Made.allOf(lamps), Made.allOf(aheadOfGap()));
    });
  }

  /** Two lamps shine, of which one has been darkened; 25 pulses are in the frame, four states are saved. */
  private static WireLamps aheadOfGap() {
    WireLamps lamps = Made.withText("111,222!");
    lamps.load();
    lamps.mode(1, 1);
    Due.write(lamps, "333,444");
    lamps.load();
    lamps.pulse(19);
    return lamps;
  }

  private static void howManyKnowAnother() {
    for (int words = 0; words <= 10; words++) {
      WireLamps lamps = new WireLamps();
      Due.sendTimes(lamps, 0x9ab, words);
      Due.is(words + " words", lamps.gap(), words < 8 ? words : 8);
      Due.sendTimes(lamps, 0x9ab, words);
      Due.is(words + " words that are known", lamps.gap(), 0);
      Due.sendTimes(lamps, 0x9aa, words);
      Due.is(words + " words of which a bit is another", lamps.gap(), words < 8 ? words : 8);
    }
    // Dark lamps count, as they know words; those that keep theirs do not, whatever else changes.
    WireLamps lamps = new WireLamps();
    lamps.mode(0, 1);
    lamps.mode(1, 2);
    Due.sendTimes(lamps, 0xfff, 3);
    Due.is("a dark lamp ahead of a broken one", lamps.gap(), 1);
    lamps.mode(0, 0);
    lamps.mode(1, 3);
    Due.is("a lamp that shines otherwise", lamps.gap(), 0);
    Made.addPulses(lamps, 11);
    Due.is("11 pulses", lamps.gap(), 0);
    lamps.send(0xfff);
    lamps.send(0);
    lamps.send(1);
    Due.is("the same, bridged, 0 as before, 1", lamps.gap(), 1);
  }

  // ---- promise 8: drop

  private static void promise8() {
    Due.holds("Promise 8", "Drops the pulses of the frame.", () -> {
      WireLamps lamps = Made.withPulses(30);
      lamps.drop();
      Due.is("frame", lamps.count(0), 0);
      Due.is("pulseAt(0)", lamps.pulseAt(0), WireLamps.NONE);
      Due.is("no lamp took a word", lamps.count(3), 0);
      Due.is("none is lost", lamps.count(4), 0);
      Due.is("dropped", lamps.count(5), 30);
      Due.is("sent", lamps.count(2), 30);
      Due.is("no gap was", lamps.count(1), 0);
      lamps.gap();
      Due.is("none come to the lamp 0", lamps.lampOf(0, 7), 0);
    });
    Due.holds("Promise 8", "Returns how many these are.", () -> {
      for (int pulses : new int[] {0, 1, 12, 119, 120}) {
        WireLamps lamps = Made.withPulses(pulses);
        Due.is("drop() of " + pulses, lamps.drop(), pulses);
        Due.is("drop() again", lamps.drop(), 0);
        Due.is("dropped", lamps.count(5), pulses);
      }
    });
    Due.holds("Promise 8", "Drops the pulses of the frame. Undoable.", () -> {
      WireLamps lamps = new WireLamps();
      lamps.drop();
      Due.is("a drop of nothing is saved", lamps.count(10), 1);
      lamps.pulse(20);
      lamps.drop();
      lamps.pulse(3);
      lamps.undo();
      lamps.undo();
      Due.is("frame", lamps.count(0), 1);
      Due.is("its pulse", lamps.pulseAt(0), 20);
      Due.is("dropped", lamps.count(5), 0);
    });
  }
}
