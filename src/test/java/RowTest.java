/** Promises 1 to 4: a new object, mode, loss, set. */
final class RowTest {
  private static final Class<IndexOutOfBoundsException> INDEX = IndexOutOfBoundsException.class;
  private static final Class<IllegalArgumentException> ARGUMENT = IllegalArgumentException.class;

  public static void main(String[] args) {
    newObject();
    modes();
    losses();
    settings();
    Due.end();
  }

  private static void newObject() {
    WireLamps lamps = new WireLamps();
    for (int what = 0; what <= 10; what++) {
      Due.is("new: count(" + what + ")", lamps.count(what), 0);
    }
    for (int lamp = 0; lamp < 8; lamp++) {
      for (int what = 0; what <= 7; what++) {
        Due.is("new: lampOf(" + lamp + ", " + what + ")", lamps.lampOf(lamp, what), 0);
      }
    }
    Due.is("new: setting(0)", lamps.setting(0), 6);
    Due.is("new: setting(1)", lamps.setting(1), 1);
    Due.is("new: setting(2)", lamps.setting(2), 360);
    Due.is("new: pulseAt(0)", lamps.pulseAt(0), WireLamps.NONE);
    Due.is("new: firstError()", lamps.firstError(), 0);
    Due.is("new: clearBuffer()", lamps.clearBuffer(), 0);
    Due.refuses(lamps, "new: goBack(0)", IllegalStateException.class, () -> lamps.goBack(0));
    Due.refuses(lamps, "new: goBack(1)", IllegalStateException.class, () -> lamps.goBack(1));
    Due.refuses(lamps, "new: undo()", IllegalStateException.class, () -> lamps.undo());
    Due.is("two new objects have the same digest", lamps.digest(), new WireLamps().digest());
  }

  private static void modes() {
    WireLamps lamps = new WireLamps();
    Due.is("mode(0, 1)", lamps.mode(0, 1), 0);
    Due.is("mode(0, 3)", lamps.mode(0, 3), 1);
    Due.is("mode(0, 2)", lamps.mode(0, 2), 3);
    Due.is("mode(7, 3)", lamps.mode(7, 3), 0);
    Due.is("lampOf(0, 0)", lamps.lampOf(0, 0), 2);
    Due.is("lampOf(7, 0)", lamps.lampOf(7, 0), 3);
    Due.is("lampOf(1, 0)", lamps.lampOf(1, 0), 0);
    Due.is("mode saves a state", lamps.count(10), 4);
    Due.is("mode(0, 2) again", lamps.mode(0, 2), 2);
    Due.is("mode saves a state if it changes nothing, too", lamps.count(10), 5);
    lamps.undo();
    lamps.undo();
    Due.is("undone mode", lamps.lampOf(7, 0), 0);
    Due.refuses(lamps, "mode(8, 0)", INDEX, () -> lamps.mode(8, 0));
    Due.refuses(lamps, "mode(-1, 0)", INDEX, () -> lamps.mode(-1, 0));
    Due.refuses(lamps, "mode(8, 4)", INDEX, () -> lamps.mode(8, 4));
    Due.refuses(lamps, "mode(MAX, MIN)", INDEX, () -> lamps.mode(Integer.MAX_VALUE, Integer.MIN_VALUE));
    Due.refuses(lamps, "mode(0, 4)", ARGUMENT, () -> lamps.mode(0, 4));
    Due.refuses(lamps, "mode(0, -1)", ARGUMENT, () -> lamps.mode(0, -1));

    WireLamps shining = new WireLamps();
    shining.send(4095);
    shining.gap();
    shining.mode(0, 1);
    Due.is("a darkened lamp shines up to the next gap", shining.lampOf(0, 3), 4095);
    shining.gap();
    Due.is("a dark lamp shines by 0 behind the gap", shining.lampOf(0, 3), 0);
    Due.is("a dark lamp keeps its word", shining.lampOf(0, 2), 4095);
    shining.mode(0, 0);
    Due.is("a mended lamp does not shine ahead of a gap", shining.lampOf(0, 3), 0);
    shining.gap();
    Due.is("a mended lamp shines by the word that it knows", shining.lampOf(0, 3), 4095);
  }

  private static void losses() {
    WireLamps lamps = new WireLamps();
    Due.is("loss(0, 6)", lamps.loss(0, 6), 0);
    Due.is("loss(7, 1)", lamps.loss(7, 1), 0);
    Due.is("loss(0, 0)", lamps.loss(0, 0), 6);
    Due.is("lampOf(7, 1)", lamps.lampOf(7, 1), 1);
    Due.is("lampOf(6, 1)", lamps.lampOf(6, 1), 0);
    Due.is("loss saves a state", lamps.count(10), 3);
    lamps.undo();
    Due.is("undone loss", lamps.lampOf(0, 1), 6);
    Due.refuses(lamps, "loss(8, 0)", INDEX, () -> lamps.loss(8, 0));
    Due.refuses(lamps, "loss(-1, 9)", INDEX, () -> lamps.loss(-1, 9));
    Due.refuses(lamps, "loss(7, 7)", ARGUMENT, () -> lamps.loss(7, 7));
    Due.refuses(lamps, "loss(7, -1)", ARGUMENT, () -> lamps.loss(7, -1));
  }

  private static void settings() {
    WireLamps lamps = new WireLamps();
    int[] lowest = {2, 0, 0};
    int[] highest = {12, 1, 360};
    int[] first = {6, 1, 360};
    for (int i = 0; i < 3; i++) {
      int setting = i;
      Due.is("set(" + i + ", lowest)", lamps.set(i, lowest[i]), first[i]);
      Due.is("set(" + i + ", highest)", lamps.set(i, highest[i]), lowest[i]);
      Due.is("setting(" + i + ")", lamps.setting(i), highest[i]);
      Due.refuses(lamps, "set below", ARGUMENT, () -> lamps.set(setting, lowest[setting] - 1));
      Due.refuses(lamps, "set above", ARGUMENT, () -> lamps.set(setting, highest[setting] + 1));
    }
    Due.is("set saves a state", lamps.count(10), 6);
    lamps.undo();
    Due.is("undone set", lamps.setting(2), 0);
    Due.refuses(lamps, "set(3, 0)", INDEX, () -> lamps.set(3, 0));
    Due.refuses(lamps, "set(-1, -1)", INDEX, () -> lamps.set(-1, -1));
    Due.refuses(lamps, "setting(3)", INDEX, () -> lamps.setting(3));
    Due.refuses(lamps, "setting(-1)", INDEX, () -> lamps.setting(-1));
  }
}
