/** The edges of the promises 1 to 4, sentence by sentence: a new object, mode, loss, set. */
final class RowEdgeTest {
  private static final Class<IndexOutOfBoundsException> INDEX = IndexOutOfBoundsException.class;
  private static final Class<IllegalArgumentException> ARGUMENT = IllegalArgumentException.class;
  private static final Class<IllegalStateException> STATE = IllegalStateException.class;
  private static final int MIN = Integer.MIN_VALUE;
  private static final int MAX = Integer.MAX_VALUE;

  public static void main(String[] args) {
    promise1();
    promise2();
    promise3();
    promise4();
    Due.end();
  }

  // ---- promise 1: a new object

  private static void promise1() {
    Due.holds("Promise 1", "Creates a row of good lamps", () -> newLamps(0, 0));
    Due.holds("Promise 1", "that do not shine", () -> {
      newLamps(3, 0);
      newLamps(4, 0);
      newLamps(5, 0);
      newLamps(6, 0);
      Due.is("count(6)", new WireLamps().count(6), 0);
      Due.is("count(7)", new WireLamps().count(7), 0);
      Due.is("count(8)", new WireLamps().count(8), 0);
      Due.isDouble("brightness()", new WireLamps().brightness(), 0.0);
    });
    Due.holds("Promise 1", "with a frame without pulses", () -> {
      WireLamps lamps = new WireLamps();
      Due.is("count(0)", lamps.count(0), 0);
      Due.is("count(2)", lamps.count(2), 0);
      Due.is("pulseAt(0)", lamps.pulseAt(0), WireLamps.NONE);
      Due.is("drop()", lamps.drop(), 0);
    });
    Due.holds("Promise 1", "empty slots", () -> {
      WireLamps lamps = new WireLamps();
      Due.refuses(lamps, "goBack(0)", STATE, () -> lamps.goBack(0));
      Due.refuses(lamps, "goBack(1)", STATE, () -> lamps.goBack(1));
    });
    Due.holds("Promise 1", "and an empty buffer", () -> {
      WireLamps lamps = new WireLamps();
      Due.refuses(lamps, "load()", ARGUMENT, () -> lamps.load());
      Due.is("firstError()", lamps.firstError(), 0);
      Due.is("clearBuffer()", lamps.clearBuffer(), 0);
      Due.is("append('0')", new WireLamps().append('0'), 1);
    });
    Due.holds("Promise 1", "Creates", RowEdgeTest::objectsAreApart);
  }

  private static void newLamps(int what, int due) {
    WireLamps lamps = new WireLamps();
    for (int lamp = 0; lamp < 8; lamp++) {
      Due.is("new: lampOf(" + lamp + ", " + what + ")", lamps.lampOf(lamp, what), due);
    }
  }

  private static void objectsAreApart() {
    WireLamps first = new WireLamps();
    long digest = first.digest();
    WireLamps second = Made.withAll();
    second.gap();
    Due.is("what is done to one is not done to another", first.digest(), digest);
    Due.is("nor to a newer one", new WireLamps().digest(), digest);
  }

  // ---- promise 2: mode

  private static void promise2() {
    Due.holds("Promise 2", "Changes what a lamp is", RowEdgeTest::changesOneMode);
    Due.holds("Promise 2", "(it shines otherwise behind the next gap alone)", RowEdgeTest::shinesBehindNextGap);
    Due.holds("Promise 2", "Undoable.", () -> {
      WireLamps lamps = new WireLamps();
      lamps.mode(7, 2);
      lamps.mode(7, 2);
      Due.is("both are saved", lamps.count(10), 2);
      lamps.undo();
      Due.is("as ahead of the second", lamps.lampOf(7, 0), 2);
      lamps.undo();
      Due.is("as ahead of the first", lamps.lampOf(7, 0), 0);
    });
    Due.holds("Promise 2", "`lamp`: 0 to 7", () -> {
      WireLamps lamps = new WireLamps();
      for (int lamp = 0; lamp < 8; lamp++) {
        Due.is("mode(" + lamp + ", 1)", lamps.mode(lamp, 1), 0);
      }
    });
    Due.holds("Promise 2", "`mode`: 0 to 3", () -> {
      WireLamps lamps = new WireLamps();
      for (int mode = 0; mode <= 3; mode++) {
        lamps.mode(0, mode);
        Due.is("lampOf(0, 0)", lamps.lampOf(0, 0), mode);
      }
    });
    Due.holds("Promise 2", "Returns what it was.", () -> {
      for (int before = 0; before <= 3; before++) {
        for (int mode = 0; mode <= 3; mode++) {
          WireLamps lamps = new WireLamps();
          lamps.mode(4, before);
          Due.is("mode(4, " + mode + ")", lamps.mode(4, mode), before);
        }
      }
    });
    Due.holds("Promise 2", "Throws `IndexOutOfBoundsException` if there is no such lamp", () -> {
      WireLamps lamps = new WireLamps();
      for (int lamp : Made.NO_LAMPS) {
        for (int mode : new int[] {0, 3, 4, -1, MIN, MAX}) {
          Due.refuses(lamps, "mode(" + lamp + ", " + mode + ")", INDEX, () -> lamps.mode(lamp, mode));
        }
      }
    });
    Due.holds("Promise 2", "Throws `IllegalArgumentException` if mode is out of range", () -> {
      WireLamps lamps = new WireLamps();
      for (int mode : new int[] {-1, 4, MIN, MAX}) {
        Due.refuses(lamps, "mode(0, " + mode + ")", ARGUMENT, () -> lamps.mode(0, mode));
        Due.refuses(lamps, "mode(7, " + mode + ")", ARGUMENT, () -> lamps.mode(7, mode));
      }
    });
  }

  private static void changesOneMode() {
    for (int changed = 0; changed < 8; changed++) {
      WireLamps lamps = new WireLamps();
      lamps.mode(changed, 3);
      for (int lamp = 0; lamp < 8; lamp++) {
        Due.is("lampOf(" + lamp + ", 0)", lamps.lampOf(lamp, 0), lamp == changed ? 3 : 0);
      }
    }
  }

  private static void shinesBehindNextGap() {
    for (int mode = 1; mode <= 3; mode++) {
      WireLamps lamps = Made.knowing(0xabc);
      lamps.mode(2, mode);
      lamps.send(0xabc);
      lamps.drop();
      Due.is("ahead of the gap, mode " + mode, lamps.lampOf(2, 3), 0xabc);
      Due.is("colour 0, mode " + mode, lamps.lampOf(2, 4), 10);
      Due.is("wanted, mode " + mode, lamps.count(6), 8 * 33);
      lamps.gap();
      Due.is("behind the gap, mode " + mode, lamps.lampOf(2, 3), 0);
      Due.is("the word is kept, mode " + mode, lamps.lampOf(2, 2), 0xabc);
      lamps.mode(2, 0);
      Due.is("good again, ahead of the gap", lamps.lampOf(2, 3), 0);
      lamps.gap();
      Due.is("good again, behind the gap", lamps.lampOf(2, 3), 0xabc);
    }
  }

  // ---- promise 3: loss

  private static void promise3() {
    Due.holds("Promise 3", "Changes the loss of the wire ahead of a lamp.", () -> {
      for (int changed = 0; changed < 8; changed++) {
        WireLamps lamps = new WireLamps();
        lamps.loss(changed, 5);
        for (int lamp = 0; lamp < 8; lamp++) {
          Due.is("lampOf(" + lamp + ", 1)", lamps.lampOf(lamp, 1), lamp == changed ? 5 : 0);
        }
      }
    });
    Due.holds("Promise 3", "Changes the loss of the wire ahead of a lamp. Undoable.", () -> {
      WireLamps lamps = new WireLamps();
      lamps.loss(7, 6);
      lamps.loss(7, 6);
      Due.is("both are saved", lamps.count(10), 2);
      lamps.undo();
      Due.is("as ahead of the second", lamps.lampOf(7, 1), 6);
      lamps.undo();
      Due.is("as ahead of the first", lamps.lampOf(7, 1), 0);
    });
    Due.holds("Promise 3", "`lamp`: 0 to 7", () -> {
      WireLamps lamps = new WireLamps();
      for (int lamp = 0; lamp < 8; lamp++) {
        Due.is("loss(" + lamp + ", 1)", lamps.loss(lamp, 1), 0);
      }
    });
    Due.holds("Promise 3", "`loss`: 0 to 6", () -> {
      WireLamps lamps = new WireLamps();
      for (int loss = 0; loss <= 6; loss++) {
        lamps.loss(0, loss);
        Due.is("lampOf(0, 1)", lamps.lampOf(0, 1), loss);
      }
    });
    Due.holds("Promise 3", "Returns the loss before.", () -> {
      for (int before = 0; before <= 6; before++) {
        for (int loss = 0; loss <= 6; loss++) {
          WireLamps lamps = new WireLamps();
          lamps.loss(3, before);
          Due.is("loss(3, " + loss + ")", lamps.loss(3, loss), before);
        }
      }
    });
    Due.holds("Promise 3", "Throws `IndexOutOfBoundsException` if there is no such lamp", () -> {
      WireLamps lamps = new WireLamps();
      for (int lamp : Made.NO_LAMPS) {
        for (int loss : new int[] {0, 6, 7, -1, MIN, MAX}) {
          Due.refuses(lamps, "loss(" + lamp + ", " + loss + ")", INDEX, () -> lamps.loss(lamp, loss));
        }
      }
    });
    Due.holds("Promise 3", "Throws `IllegalArgumentException` if loss is out of range", () -> {
      WireLamps lamps = new WireLamps();
      for (int loss : new int[] {-1, 7, MIN, MAX}) {
        Due.refuses(lamps, "loss(0, " + loss + ")", ARGUMENT, () -> lamps.loss(0, loss));
        Due.refuses(lamps, "loss(7, " + loss + ")", ARGUMENT, () -> lamps.loss(7, loss));
      }
    });
  }

  // ---- promise 4: set

  private static void promise4() {
    Due.holds("Promise 4", "Changes a setting.", RowEdgeTest::changesOneSetting);
    Due.holds("Promise 4", "Changes a setting. Undoable.", () -> {
      WireLamps lamps = new WireLamps();
      lamps.set(2, 0);
      lamps.set(2, 0);
      Due.is("both are saved", lamps.count(10), 2);
      lamps.undo();
      Due.is("as ahead of the second", lamps.setting(2), 0);
      lamps.undo();
      Due.is("as ahead of the first", lamps.setting(2), 360);
    });
    Due.holds("Promise 4", "`setting`: 0 to 2", () -> {
      WireLamps lamps = new WireLamps();
      Due.is("set(0, 7)", lamps.set(0, 7), 6);
      Due.is("set(1, 0)", lamps.set(1, 0), 1);
      Due.is("set(2, 7)", lamps.set(2, 7), 360);
    });
    Due.holds("Promise 4", "Returns the previous value.", RowEdgeTest::everyValue);
    Due.holds("Promise 4", "Throws `IndexOutOfBoundsException` if there is no such setting", () -> {
      WireLamps lamps = new WireLamps();
      for (int setting : new int[] {-1, 3, MIN, MAX}) {
        for (int value : new int[] {0, 2, 361, -1, MIN, MAX}) {
          Due.refuses(lamps, "set(" + setting + ", " + value + ")", INDEX, () -> lamps.set(setting, value));
        }
      }
    });
    Due.holds("Promise 4", "Throws `IllegalArgumentException` if value is out of range", () -> {
      WireLamps lamps = new WireLamps();
      int[][] wrong = {{1, 13, 0, MIN, MAX}, {-1, 2, 6, MIN, MAX}, {-1, 361, MIN, MAX}};
      for (int i = 0; i < 3; i++) {
        int setting = i;
        for (int value : wrong[i]) {
          Due.refuses(lamps, "set(" + i + ", " + value + ")", ARGUMENT, () -> lamps.set(setting, value));
        }
      }
    });
  }

  private static void changesOneSetting() {
    int[] first = {6, 1, 360};
    int[] other = {12, 0, 0};
    for (int changed = 0; changed < 3; changed++) {
      WireLamps lamps = new WireLamps();
      lamps.set(changed, other[changed]);
      for (int setting = 0; setting < 3; setting++) {
        int due = setting == changed ? other[setting] : first[setting];
        Due.is("setting(" + setting + ")", lamps.setting(setting), due);
      }
    }
    // The current tells on what is shown at once; the other two tell at the next gap alone.
    WireLamps lamps = Made.knowing(0xf00);
    lamps.set(0, 9);
    lamps.set(1, 0);
    Due.is("shines as before", lamps.lampOf(0, 3), 0xf00);
    lamps.set(2, 60);
    Due.is("half the current that is wanted", lamps.lampOf(0, 4), 7);
    lamps.send(0xfff);
    lamps.gap();
    Due.is("8 is read as 0 now", lamps.lampOf(0, 2), 0);
  }

  private static void everyValue() {
    int[] lowest = {2, 0, 0};
    int[] highest = {12, 1, 360};
    for (int setting = 0; setting < 3; setting++) {
      WireLamps lamps = new WireLamps();
      int before = lamps.setting(setting);
      for (int value = lowest[setting]; value <= highest[setting]; value++) {
        Due.is("set(" + setting + ", " + value + ")", lamps.set(setting, value), before);
        before = value;
      }
      Due.is("setting(" + setting + ")", lamps.setting(setting), highest[setting]);
    }
  }
}
