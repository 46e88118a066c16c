import java.util.function.Consumer;

/** The edges of snapshots and undo, and of the promises 13 to 15: keep, goBack, undo. */
final class HistoryEdgeTest {
  private static final Class<IllegalArgumentException> ARGUMENT = IllegalArgumentException.class;
  private static final Class<IllegalStateException> STATE = IllegalStateException.class;
  private static final int[] NO_SLOTS = {-1, 2, Integer.MIN_VALUE, Integer.MAX_VALUE};

  public static void main(String[] args) {
    history();
    promise13();
    promise14();
    promise15();
    Due.end();
  }

  // ---- snapshots, undo

  private static void history() {
    Due.holds("Snapshots, undo", "There are two slots", HistoryEdgeTest::twoSlots);
    Due.holds("Snapshots, undo", "a snapshot is all but the buffer, the slots and the saved states",
        HistoryEdgeTest::allButBuffer);
    Due.holds("Snapshots, undo", "does not throw an exception saves the state from before it",
        HistoryEdgeTest::savesBefore);
    Due.holds("Snapshots, undo", "(also if it changes nothing, or is refused)", HistoryEdgeTest::savesWithoutChange);
    Due.holds("Snapshots, undo", "all, also what is counted so far", HistoryEdgeTest::savesCounts);
    Due.holds("Snapshots, undo", "but the buffer, the slots and the saved states", HistoryEdgeTest::savesNotBuffer);
    Due.holds("Snapshots, undo", "Each method that is marked \"undoable\"", HistoryEdgeTest::othersSaveNothing);
    Due.holds("Snapshots, undo", "At most 6 states are saved", HistoryEdgeTest::sixStates);
    Due.holds("Snapshots, undo", "the oldest one is dropped first", HistoryEdgeTest::oldestDropped);
  }

  private static void twoSlots() {
    WireLamps lamps = Made.withPulses(1);
    lamps.keep(0);
    lamps.pulse(2);
    lamps.keep(1);
    for (int slot : NO_SLOTS) {
      Due.refuses(lamps, "keep(" + slot + ")", ARGUMENT, () -> lamps.keep(slot));
      Due.refuses(lamps, "goBack(" + slot + ")", ARGUMENT, () -> lamps.goBack(slot));
    }
    Due.is("goBack(0)", lamps.goBack(0), 1);
    Due.is("goBack(1)", lamps.goBack(1), 2);
  }

  private static void allButBuffer() {
    WireLamps lamps = Made.withAll();
    long due = lamps.digest();
    lamps.keep(0);
    for (int lamp = 0; lamp < 8; lamp++) {
      lamps.mode(lamp, 0);
      lamps.loss(lamp, 1);
    }
    lamps.set(0, 5);
    lamps.set(1, 1);
    lamps.set(2, 200);
    lamps.gap();
    Due.sendTimes(lamps, 0x777, 11);
    lamps.gap();
    lamps.pulse(1);
    lamps.drop();
    lamps.goBack(0);
    Due.is("digest(), all as at the snapshot", lamps.digest(), due);
    lamps.append('0');
    lamps.goBack(0);
    Due.is("the buffer is not in it", lamps.clearBuffer(), 7);
    lamps.undo();
    lamps.goBack(0);
    Due.is("the saved states are not in it", lamps.count(10), 6);
    WireLamps young = new WireLamps();
    young.keep(0);
    young.keep(1);
    young.goBack(0);
    Due.is("the slots are not in it", young.goBack(1), 0);
    Due.is("a snapshot without saved states keeps those of now", young.count(10), 2);
  }

  private static void undone(String call, Consumer<WireLamps> change) {
    WireLamps lamps = Made.withAll();
    lamps.undo();
    WireLamps twin = Made.withAll();
    twin.undo();
    Due.is(call + ": saved states ahead", lamps.count(10), 5);
    change.accept(lamps);
    Due.is(call + ": saved states behind", lamps.count(10), 6);
    lamps.undo();
    Due.areSame(call + ", undone, all", Made.allOf(lamps), Made.allOf(twin));
  }

  private static void savesBefore() {
    undone("mode", lamps -> lamps.mode(0, 3));
    undone("loss", lamps -> lamps.loss(0, 6));
    undone("set", lamps -> lamps.set(0, 12));
    undone("pulse", lamps -> lamps.pulse(20));
    undone("send", lamps -> lamps.send(0xfff));
    undone("gap", lamps -> lamps.gap());
    undone("drop", lamps -> lamps.drop());
    undone("goBack(0)", lamps -> lamps.goBack(0));
    undone("goBack(1)", lamps -> lamps.goBack(1));
    WireLamps loaded = Made.withText("fff!");
    loaded.load();
    loaded.undo();
    Due.areSame("load, undone, all", Made.allOf(loaded), Made.allOf(new WireLamps()));
  }

  private static void savesWithoutChange() {
    WireLamps lamps = new WireLamps();
    lamps.mode(0, 0);
    Due.is("mode as it is", lamps.count(10), 1);
    lamps.loss(0, 0);
    Due.is("loss as it is", lamps.count(10), 2);
    lamps.set(0, 6);
    Due.is("set as it is", lamps.count(10), 3);
    lamps.drop();
    Due.is("drop of nothing", lamps.count(10), 4);
    lamps.gap();
    Due.is("gap of nothing", lamps.count(10), 5);
    lamps.keep(0);
    lamps.goBack(0);
    Due.is("goBack to what is", lamps.count(10), 6);
    WireLamps full = Made.full();
    Due.is("saved states of a full frame", full.count(10), 1);
    full.pulse(1);
    Due.is("a refused pulse", full.count(10), 2);
    full.send(1);
    Due.is("a refused word", full.count(10), 3);
    Due.write(full, "000");
    full.load();
    Due.is("a refused text", full.count(10), 4);
  }

  private static void savesCounts() {
    // Ten words, of which eight are taken; a pulse that is dropped; a refused one.
    WireLamps lamps = Made.withPulses(120);
    lamps.pulse(1);
    lamps.gap();
    lamps.pulse(1);
    lamps.drop();
    Made.addPulses(lamps, 5);
    Due.is("saved states", lamps.count(10), 6);
    int[] due = {5, 1, 126, 96, 24, 1, 0, 0, 0, 1};
    countsAre(lamps, "ahead", due);
    lamps.gap();
    lamps.undo();
    countsAre(lamps, "undone gap", due);
    lamps.drop();
    lamps.undo();
    countsAre(lamps, "undone drop", due);
    lamps.pulse(1);
    lamps.undo();
    countsAre(lamps, "undone pulse", due);
    lamps.send(1);
    lamps.undo();
    countsAre(lamps, "undone send", due);
    Due.write(lamps, Made.TEN_WORDS);
    lamps.load();
    Due.is("refused", lamps.count(9), 2);
    lamps.undo();
    countsAre(lamps, "undone refusal", due);
    lamps.undo();
    Due.is("one more undone", lamps.count(2), 125);
  }

  private static void countsAre(WireLamps lamps, String when, int[] due) {
    for (int what = 0; what < due.length; what++) {
      Due.is(when + ": count(" + what + ")", lamps.count(what), due[what]);
    }
  }

  private static void savesNotBuffer() {
    WireLamps lamps = Made.withText("12");
    lamps.send(1);
    lamps.append('3');
    lamps.keep(1);
    lamps.undo();
    Due.is("the buffer of now", lamps.clearBuffer(), 3);
    Due.is("the slot of now", lamps.goBack(1), 12);
    Due.is("saved states of now", lamps.count(10), 1);
  }

  private static void savesNothing(String call, Consumer<WireLamps> unmarked) {
    WireLamps lamps = new WireLamps();
    lamps.send(1);
    lamps.keep(0);
    unmarked.accept(lamps);
    Due.is(call + " saves nothing", lamps.count(10), 1);
    lamps.undo();
    Due.is(call + " ahead of undo()", lamps.count(0), 0);
  }

  private static void othersSaveNothing() {
    savesNothing("append", lamps -> lamps.append('0'));
    savesNothing("clearBuffer", lamps -> lamps.clearBuffer());
    savesNothing("firstError", lamps -> lamps.firstError());
    savesNothing("keep", lamps -> lamps.keep(1));
    savesNothing("lampOf", lamps -> lamps.lampOf(0, 7));
    savesNothing("pulseAt", lamps -> lamps.pulseAt(0));
    savesNothing("count", lamps -> lamps.count(10));
    savesNothing("setting", lamps -> lamps.setting(0));
    savesNothing("ifGap 0", lamps -> lamps.ifGap(0, 0));
    savesNothing("ifGap 1", lamps -> lamps.ifGap(0, 1));
    savesNothing("wrong", lamps -> lamps.wrong(0));
    savesNothing("bears", lamps -> lamps.bears(0));
    savesNothing("brokenAt", lamps -> lamps.brokenAt());
    savesNothing("wordsTo", lamps -> lamps.wordsTo(0));
    savesNothing("brightness", lamps -> lamps.brightness());
    savesNothing("digest", lamps -> lamps.digest());
    WireLamps lamps = new WireLamps();
    lamps.send(1);
    lamps.send(2);
    lamps.undo();
    Due.is("undo saves nothing", lamps.undo(), 0);
  }

  private static void sixStates() {
    WireLamps lamps = new WireLamps();
    for (int i = 1; i <= 9; i++) {
      lamps.pulse(1);
      Due.is("states saved of " + i, lamps.count(10), i <= 6 ? i : 6);
    }
    for (int left = 5; left >= 0; left--) {
      Due.is("undo()", lamps.undo(), left);
    }
    Due.refuses(lamps, "a seventh undo()", STATE, () -> lamps.undo());
    Due.is("three pulses can't be undone", lamps.count(0), 3);
  }

  private static void oldestDropped() {
    for (int calls = 6; calls <= 14; calls++) {
      WireLamps lamps = new WireLamps();
      for (int i = 1; i <= calls; i++) {
        lamps.pulse(i);
      }
      for (int left = 5; left >= 0; left--) {
        lamps.undo();
        Due.is(calls + " calls, " + left + " left: count(0)", lamps.count(0), calls - 6 + left);
        Due.is(calls + " calls, " + left + " left: the last pulse", lamps.pulseAt(calls - 7 + left + 1),
            WireLamps.NONE);
        int last = calls - 6 + left;
        Due.is("it is the one sent last", last == 0 ? 0 : lamps.pulseAt(last - 1), last);
      }
    }
  }

  // ---- promise 13: keep

  private static void promise13() {
    Due.holds("Promise 13", "Takes a snapshot, in place of the one in the slot.", HistoryEdgeTest::inPlace);
    Due.holds("Promise 13", "`slot`: 0 or 1", HistoryEdgeTest::slotsOfKeep);
    Due.holds("Promise 13", "Returns how many pulses the frame has.", () -> {
      for (int pulses : new int[] {0, 1, 119, 120}) {
        Due.is("keep() with " + pulses, Made.withPulses(pulses).keep(1), pulses);
      }
    });
    Due.holds("Promise 13", "Throws `IllegalArgumentException` if slot is out of range", () -> {
      WireLamps lamps = Made.withAll();
      for (int slot : NO_SLOTS) {
        Due.refuses(lamps, "keep(" + slot + ")", ARGUMENT, () -> lamps.keep(slot));
      }
      Due.areSame("behind them, all", Made.allOf(lamps), Made.allOf(Made.withAll()));
    });
  }

  private static void inPlace() {
    WireLamps lamps = new WireLamps();
    for (int pulses = 1; pulses <= 5; pulses++) {
      lamps.pulse(pulses);
      lamps.keep(0);
    }
    lamps.drop();
    Due.is("the latest snapshot", lamps.goBack(0), 5);
    Due.refuses(lamps, "the other slot is empty", STATE, () -> lamps.goBack(1));
    lamps.drop();
    lamps.keep(0);
    lamps.pulse(1);
    Due.is("one without pulses", lamps.goBack(0), 0);
    Due.is("its frame", lamps.pulseAt(0), WireLamps.NONE);
  }

  private static void slotsOfKeep() {
    for (int slot = 0; slot <= 1; slot++) {
      WireLamps lamps = Made.withPulses(7);
      int other = 1 - slot;
      lamps.keep(slot);
      Due.is("goBack(" + slot + ")", lamps.goBack(slot), 7);
      Due.refuses(lamps, "goBack(" + other + ")", STATE, () -> lamps.goBack(other));
      Due.is("digest()", lamps.digest(), ForecastTest.digestOf(lamps, slot == 0, slot == 1, ""));
    }
  }

  // ---- promise 14: goBack

  private static void promise14() {
    Due.holds("Promise 14", "Goes back to a snapshot, which stays.", HistoryEdgeTest::snapshotStays);
    Due.holds("Promise 14", "Goes back to a snapshot, which stays. Undoable.", HistoryEdgeTest::goBackUndone);
    Due.holds("Promise 14", "`slot`: 0 or 1", () -> {
      WireLamps lamps = Made.withPulses(3);
      lamps.keep(1);
      lamps.pulse(1);
      lamps.keep(0);
      Due.is("goBack(1)", lamps.goBack(1), 3);
      Due.is("goBack(0)", lamps.goBack(0), 4);
    });
    Due.holds("Promise 14", "Returns how many pulses the frame has then.", () -> {
      for (int pulses : new int[] {0, 1, 120}) {
        WireLamps lamps = Made.withPulses(pulses);
        lamps.keep(0);
        lamps.drop();
        lamps.send(1);
        Due.is("goBack(0)", lamps.goBack(0), pulses);
        Due.is("count(0)", lamps.count(0), pulses);
      }
    });
    Due.holds("Promise 14", "Throws `IllegalArgumentException` if slot is out of range", () -> {
      WireLamps lamps = Made.withAll();
      for (int slot : NO_SLOTS) {
        Due.refuses(lamps, "goBack(" + slot + ")", ARGUMENT, () -> lamps.goBack(slot));
      }
      Due.areSame("behind them, all", Made.allOf(lamps), Made.allOf(Made.withAll()));
    });
    Due.holds("Promise 14", "Throws `IllegalStateException` if there is no snapshot in it", () -> {
      WireLamps lamps = Made.withPulses(2);
      Due.refuses(lamps, "goBack(0)", STATE, () -> lamps.goBack(0));
      Due.refuses(lamps, "goBack(1)", STATE, () -> lamps.goBack(1));
      lamps.keep(1);
      Due.refuses(lamps, "goBack(0), as keep(1) was", STATE, () -> lamps.goBack(0));
      Due.is("saved states", lamps.count(10), 2);
    });
  }

  private static void snapshotStays() {
    WireLamps lamps = Made.withPulses(5);
    lamps.keep(0);
    for (int i = 0; i < 3; i++) {
      lamps.goBack(0);
      Due.is("frame of the snapshot", lamps.count(0), 5);
      Due.is("its last pulse", lamps.pulseAt(4), 4);
      Due.is("its mode", lamps.lampOf(2, 0), 0);
      Due.is("its loss", lamps.lampOf(2, 1), 0);
      Due.is("its word", lamps.lampOf(0, 2), 0);
      Due.is("its setting", lamps.setting(2), 360);
      lamps.drop();
      lamps.send(4095);
      lamps.gap();
      lamps.pulse(20);
      lamps.mode(2, 2);
      lamps.loss(2, 2);
      lamps.set(2, 2);
    }
    lamps.goBack(0);
    lamps.undo();
    Due.is("undo leaves it there", lamps.goBack(0), 5);
  }

  private static void goBackUndone() {
    WireLamps lamps = Made.withPulses(5);
    lamps.keep(0);
    lamps.keep(1);
    lamps.mode(0, 3);
    lamps.undo();
    lamps.mode(0, 2);
    Due.is("goBack(0)", lamps.goBack(0), 5);
    Due.is("the mode of the snapshot", lamps.lampOf(0, 0), 0);
    Due.is("saved states", lamps.count(10), 6);
    lamps.undo();
    Due.is("the mode of before", lamps.lampOf(0, 0), 2);
  }

  // ---- promise 15: undo

  private static void promise15() {
    Due.holds("Promise 15", "Restores the latest saved state, and drops it.", HistoryEdgeTest::latestState);
    Due.holds("Promise 15", "Returns how many saved states are left.", () -> {
      for (int saved = 1; saved <= 6; saved++) {
        WireLamps lamps = Made.withPulses(saved);
        for (int left = saved - 1; left >= 0; left--) {
          Due.is("undo() of " + saved, lamps.undo(), left);
          Due.is("count(10)", lamps.count(10), left);
        }
      }
    });
    Due.holds("Promise 15", "Throws `IllegalStateException` if there is none", () -> {
      WireLamps lamps = Made.withText("0");
      Due.refuses(lamps, "undo() of a new row", STATE, () -> lamps.undo());
      lamps.pulse(1);
      Due.is("undo()", lamps.undo(), 0);
      Due.refuses(lamps, "undo() of what is undone", STATE, () -> lamps.undo());
      lamps.keep(0);
      Due.refuses(lamps, "undo() of keep()", STATE, () -> lamps.undo());
      lamps.append('0');
      Due.refuses(lamps, "undo() of append()", STATE, () -> lamps.undo());
    });
  }

  private static void latestState() {
    WireLamps lamps = new WireLamps();
    lamps.pulse(11);
    lamps.pulse(12);
    lamps.pulse(13);
    lamps.undo();
    Due.is("the latest is undone", lamps.count(0), 2);
    lamps.pulse(14);
    Due.is("a pulse in its place", lamps.pulseAt(2), 14);
    lamps.undo();
    lamps.undo();
    Due.is("each is undone once", lamps.count(0), 1);
    Due.is("the first pulse stays", lamps.pulseAt(0), 11);
    // A saved state is not touched by what is done behind it.
    lamps.gap();
    lamps.send(0xfff);
    lamps.gap();
    lamps.undo();
    lamps.undo();
    Due.is("gaps of then", lamps.count(1), 1);
    lamps.undo();
    Due.is("the frame of then", lamps.pulseAt(0), 11);
    Due.is("its pulses", lamps.count(0), 1);
    Due.is("gaps of then", lamps.count(1), 0);
    Due.is("came of then", lamps.lampOf(0, 7), 0);
  }
}
