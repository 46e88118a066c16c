/** Promises 13 to 15: keep, goBack, undo. */
final class HistoryTest {
  private static final Class<IllegalArgumentException> ARGUMENT = IllegalArgumentException.class;
  private static final Class<IllegalStateException> STATE = IllegalStateException.class;

  public static void main(String[] args) {
    snapshots();
    snapshotHoldsAll();
    undos();
    sixStates();
    Due.end();
  }

  private static void snapshots() {
    WireLamps lamps = new WireLamps();
    lamps.send(5);
    Due.is("keep(0)", lamps.keep(0), 12);
    Due.is("keep saves no state", lamps.count(10), 1);
    Due.refuses(lamps, "goBack(1)", STATE, () -> lamps.goBack(1));
    lamps.pulse(1);
    Due.is("keep(1)", lamps.keep(1), 13);
    lamps.drop();
    Due.is("goBack(0)", lamps.goBack(0), 12);
    Due.is("goBack(1)", lamps.goBack(1), 13);
    Due.is("goBack(1) again", lamps.goBack(1), 13);
    Due.is("goBack saves a state", lamps.count(10), 6);
    lamps.drop();
    Due.is("keep(1) in place of the one before", lamps.keep(1), 0);
    lamps.send(1);
    Due.is("goBack(1) to the new one", lamps.goBack(1), 0);
    Due.is("slot 0 is as it was", lamps.goBack(0), 12);
    Due.refuses(lamps, "keep(2)", ARGUMENT, () -> lamps.keep(2));
    Due.refuses(lamps, "keep(-1)", ARGUMENT, () -> lamps.keep(-1));
    Due.refuses(lamps, "goBack(2)", ARGUMENT, () -> lamps.goBack(2));
    Due.refuses(lamps, "goBack(-1)", ARGUMENT, () -> lamps.goBack(-1));
    lamps.undo();
    Due.is("undone goBack", lamps.count(0), 0);
  }

  private static void snapshotHoldsAll() {
    WireLamps lamps = new WireLamps();
    Due.sendTimes(lamps, 0xabc, 9);
    lamps.mode(2, 1);
    lamps.loss(3, 1);
    lamps.set(2, 100);
    lamps.gap();
    lamps.pulse(7);
    lamps.drop();
    lamps.pulse(9);
    lamps.keep(0);
    long there = digestWithSixSaved(lamps);
    lamps.mode(2, 3);
    lamps.loss(3, 2);
    lamps.set(0, 2);
    lamps.set(1, 0);
    lamps.set(2, 0);
    Due.sendTimes(lamps, 0x123, 9);
    lamps.send(1);
    lamps.drop();
    Due.sendTimes(lamps, 0x123, 9);
    lamps.gap();
    Due.write(lamps, "fff");
    lamps.goBack(0);
    Due.is("the buffer is not in a snapshot", lamps.clearBuffer(), 3);
    Due.is("all else is", digestWithSixSaved(lamps), there);
  }

  /** The digest with as many saved states as can be. */
  private static long digestWithSixSaved(WireLamps lamps) {
    Due.is("saved states", lamps.count(10), 6);
    return lamps.digest();
  }

  private static void undos() {
    WireLamps lamps = new WireLamps();
    lamps.send(1);
    long one = lamps.digest();
    lamps.gap();
    long two = lamps.digest();
    lamps.keep(0);
    Due.write(lamps, "fff!");
    lamps.load();
    Due.write(lamps, "00");
    Due.is("undo() of load()", lamps.undo(), 2);
    Due.is("undo leaves the slots", lamps.goBack(0), 0);
    Due.is("undo leaves the buffer", lamps.clearBuffer(), 2);
    Due.is("undo() of goBack()", lamps.undo(), 2);
    Due.is("a slot is in the digest", lamps.digest() == two ? 1 : 0, 0);
    Due.is("undo() of gap()", lamps.undo(), 1);
    Due.is("the word is in the frame again", lamps.count(0), 12);
    Due.is("undo() of send()", lamps.undo(), 0);
    Due.refuses(lamps, "undo() of nothing", STATE, () -> lamps.undo());
    lamps.send(1);
    Due.is("a slot stays in the digest", lamps.digest() == one ? 1 : 0, 0);
  }

  private static void sixStates() {
    WireLamps lamps = new WireLamps();
    for (int i = 1; i <= 20; i++) {
      lamps.pulse(i);
      Due.is("saved states", lamps.count(10), i < 6 ? i : 6);
    }
    for (int left = 5; left >= 0; left--) {
      Due.is("undo()", lamps.undo(), left);
      Due.is("frame", lamps.count(0), 14 + left);
      Due.is("last pulse", lamps.pulseAt(13 + left), 14 + left);
    }
    Due.refuses(lamps, "undo() of a dropped state", STATE, () -> lamps.undo());
    lamps.pulse(3);
    Due.is("saved again", lamps.count(10), 1);
    Due.is("undo()", lamps.undo(), 0);
  }
}
