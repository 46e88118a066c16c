/** Promises 5 to 8: pulse, send, gap, drop. */
final class FrameTest {
  private static final Class<IllegalArgumentException> ARGUMENT = IllegalArgumentException.class;

  public static void main(String[] args) {
    pulses();
    words();
    gapThroughGoodLamps();
    gapThroughOtherLamps();
    gapWithLosses();
    drops();
    Due.end();
  }

  private static void pulses() {
    WireLamps lamps = new WireLamps();
    Due.is("pulse(1)", lamps.pulse(1), 1);
    Due.is("pulse(20)", lamps.pulse(20), 2);
    Due.is("pulseAt(0)", lamps.pulseAt(0), 1);
    Due.is("pulseAt(1)", lamps.pulseAt(1), 20);
    Due.is("pulseAt(2)", lamps.pulseAt(2), WireLamps.NONE);
    Due.refuses(lamps, "pulse(0)", ARGUMENT, () -> lamps.pulse(0));
    Due.refuses(lamps, "pulse(21)", ARGUMENT, () -> lamps.pulse(21));
    Due.refuses(lamps, "pulse(MIN)", ARGUMENT, () -> lamps.pulse(Integer.MIN_VALUE));
    for (int i = 3; i <= 120; i++) {
      Due.is("pulse " + i, lamps.pulse(5), i);
    }
    Due.is("pulse 121", lamps.pulse(5), WireLamps.NONE);
    Due.is("a refused pulse leaves the frame", lamps.count(0), 120);
    Due.is("a refused pulse is counted", lamps.count(9), 1);
    Due.is("a refused pulse is not sent", lamps.count(2), 120);
    lamps.undo();
    Due.is("a refused pulse saves a state", lamps.count(0), 120);
    Due.is("a refused pulse is not counted when undone", lamps.count(9), 0);
    lamps.undo();
    Due.is("undone pulse", lamps.count(0), 119);
    Due.refuses(lamps, "pulse(0) ahead of a full frame", ARGUMENT, () -> lamps.pulse(0));
  }

  private static void words() {
    WireLamps lamps = new WireLamps();
    Due.is("send(2049)", lamps.send(2049), 12);
    for (int place = 0; place < 12; place++) {
      Due.is("pulseAt(" + place + ")", lamps.pulseAt(place), place == 0 || place == 11 ? 8 : 4);
    }
    Due.is("send(0)", lamps.send(0), 24);
    Due.is("send(4095)", lamps.send(4095), 36);
    Due.is("pulseAt(23)", lamps.pulseAt(23), 4);
    Due.is("pulseAt(24)", lamps.pulseAt(24), 8);
    Due.refuses(lamps, "send(-1)", ARGUMENT, () -> lamps.send(-1));
    Due.refuses(lamps, "send(4096)", ARGUMENT, () -> lamps.send(4096));
    Due.sendTimes(lamps, 1, 6);
    Due.is("send of the tenth word", lamps.send(1), 120);
    Due.is("send of the eleventh word", lamps.send(1), WireLamps.NONE);
    Due.is("a refused word is counted", lamps.count(9), 1);
    Due.is("undo of a refused word", lamps.undo(), 5);
    Due.is("a refused word saves a state", lamps.count(0), 120);
    Due.is("refused, undone", lamps.count(9), 0);
    lamps.undo();
    Due.is("pulse behind nine words", lamps.pulse(3), 109);
    Due.is("send with one pulse too many", lamps.send(0), WireLamps.NONE);
    Due.is("nothing of a refused word is sent", lamps.count(0), 109);
  }

  private static void gapThroughGoodLamps() {
    WireLamps lamps = new WireLamps();
    Due.is("gap() without pulses", lamps.gap(), 0);
    Due.is("gaps", lamps.count(1), 1);
    lamps.send(4095);
    lamps.send(291);
    lamps.send(0);
    lamps.pulse(8);
    Due.is("gap() with three words and a pulse", lamps.gap(), 2);
    Due.is("frame behind the gap", lamps.count(0), 0);
    Due.is("first lamp knows", lamps.lampOf(0, 2), 4095);
    Due.is("second lamp knows", lamps.lampOf(1, 2), 291);
    Due.is("second lamp shines", lamps.lampOf(1, 3), 291);
    int[] came = {37, 25, 13, 1, 0, 0, 0, 0};
    for (int lamp = 0; lamp < 8; lamp++) {
      Due.is("came to " + lamp, lamps.lampOf(lamp, 7), came[lamp]);
    }
    Due.is("pulses taken", lamps.count(3), 36);
    Due.is("pulses lost", lamps.count(4), 1);
    Due.is("pulses sent", lamps.count(2), 37);
    Due.is("current wanted", lamps.count(6), 45 + 6);
    Due.is("lamps that shine", lamps.count(8), 2);
    lamps.undo();
    Due.is("undone gap: frame", lamps.count(0), 37);
    Due.is("undone gap: word", lamps.lampOf(0, 2), 0);
    Due.is("undone gap: came", lamps.lampOf(0, 7), 0);
    Due.is("undone gap: gaps", lamps.count(1), 1);
    lamps.gap();
    Due.is("gap() with fewer than 12 pulses", fewPulses(lamps, 11), 0);
    Due.is("the word is kept", lamps.lampOf(0, 2), 4095);
    Due.is("the lamp shines on", lamps.lampOf(0, 3), 4095);
    Due.is("11 pulses came", lamps.lampOf(0, 7), 11);
    Due.is("none is handed on", lamps.lampOf(1, 7), 0);
    Due.is("gap() with 12 pulses", fewPulses(lamps, 12), 1);
    Due.is("the word of 12 long pulses' other kind", lamps.lampOf(0, 2), 0);
  }

  private static int fewPulses(WireLamps lamps, int pulses) {
    for (int i = 0; i < pulses; i++) {
      lamps.pulse(5);
    }
    return lamps.gap();
  }

  private static void gapThroughOtherLamps() {
    WireLamps lamps = new WireLamps();
    lamps.mode(0, 1);
    lamps.mode(1, 3);
    lamps.mode(3, 2);
    for (int word = 1; word <= 4; word++) {
      lamps.send(word);
    }
    Due.is("gap() through dark, bridged, good, broken", lamps.gap(), 2);
    int[] known = {1, 0, 2, 0, 0, 0, 0, 0};
    int[] shines = {0, 0, 2, 0, 0, 0, 0, 0};
    int[] came = {48, 36, 36, 24, 0, 0, 0, 0};
    for (int lamp = 0; lamp < 8; lamp++) {
      Due.is("knows " + lamp, lamps.lampOf(lamp, 2), known[lamp]);
      Due.is("shines " + lamp, lamps.lampOf(lamp, 3), shines[lamp]);
      Due.is("came to " + lamp, lamps.lampOf(lamp, 7), came[lamp]);
    }
    Due.is("taken", lamps.count(3), 24);
    Due.is("lost at the broken lamp", lamps.count(4), 24);
    lamps.mode(2, 2);
    lamps.gap();
    Due.is("a broken lamp keeps its word", lamps.lampOf(2, 2), 2);
    Due.is("a broken lamp does not shine", lamps.lampOf(2, 3), 0);
  }

  private static void gapWithLosses() {
    WireLamps lamps = new WireLamps();
    lamps.loss(0, 2);
    lamps.loss(1, 2);
    Due.sendTimes(lamps, 4095, 2);
    lamps.gap();
    Due.is("made anew: a pulse of 6 is read as 1", lamps.lampOf(0, 2), 4095);
    Due.is("made anew: its copy has the length 8 again", lamps.lampOf(1, 2), 4095);
    lamps.set(1, 0);
    Due.sendTimes(lamps, 4095, 2);
    lamps.gap();
    Due.is("not made anew: 8 - 2", lamps.lampOf(0, 2), 4095);
    Due.is("not made anew: 8 - 2 - 2", lamps.lampOf(1, 2), 0);
    lamps.loss(0, 3);
    lamps.send(4095);
    lamps.gap();
    Due.is("a pulse of 5 is read as 0", lamps.lampOf(0, 2), 0);

    // A bridge makes nothing anew; a zero that is read as 1 is handed on as 1.
    WireLamps bridged = new WireLamps();
    bridged.mode(0, 3);
    bridged.loss(0, 1);
    bridged.loss(1, 1);
    bridged.set(0, 2);
    Due.sendTimes(bridged, 0, 2);
    bridged.gap();
    Due.is("4 - 1 - 1 is read as 1", bridged.lampOf(1, 2), 4095);
    bridged.loss(2, 6);
    Due.sendTimes(bridged, 0, 2);
    bridged.gap();
    Due.is("handed on anew as 8, and 8 - 6 is read as 1", bridged.lampOf(2, 2), 4095);

    // The length does not fall below 1, wherever the losses stand.
    WireLamps worn = new WireLamps();
    worn.set(1, 0);
    worn.set(0, 2);
    worn.loss(0, 6);
    worn.loss(1, 6);
    for (int i = 0; i < 24; i++) {
      worn.pulse(i < 12 ? 8 : 13);
    }
    worn.gap();
    Due.is("8 - 6 is read as 1", worn.lampOf(0, 2), 4095);
    Due.is("13 - 6 - 6, at least 1, is read as 0", worn.lampOf(1, 2), 0);
  }

  private static void drops() {
    WireLamps lamps = new WireLamps();
    Due.is("drop() of nothing", lamps.drop(), 0);
    Due.is("drop() of nothing saves a state", lamps.count(10), 1);
    lamps.send(7);
    lamps.pulse(3);
    Due.is("drop()", lamps.drop(), 13);
    Due.is("frame", lamps.count(0), 0);
    Due.is("pulseAt(0)", lamps.pulseAt(0), WireLamps.NONE);
    Due.is("dropped", lamps.count(5), 13);
    Due.is("sent", lamps.count(2), 13);
    Due.is("a drop is no gap", lamps.count(1), 0);
    Due.is("undo()", lamps.undo(), 3);
    Due.is("frame again", lamps.count(0), 13);
    Due.is("dropped again", lamps.count(5), 0);
  }
}
