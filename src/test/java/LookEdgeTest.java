import java.util.function.Consumer;

/** The edges of the promises 16 to 19, sentence by sentence: lampOf, pulseAt, count, setting. */
final class LookEdgeTest {
  private static final Class<IndexOutOfBoundsException> INDEX = IndexOutOfBoundsException.class;
  private static final Class<IllegalArgumentException> ARGUMENT = IllegalArgumentException.class;
  private static final int MIN = Integer.MIN_VALUE;
  private static final int MAX = Integer.MAX_VALUE;

  public static void main(String[] args) {
    Due.holds("The public face", "looks; nothing is changed", LookEdgeTest::looksChangeNothing);
    Due.holds("The public face", "what would be; nothing is changed", LookEdgeTest::forecastsChangeNothing);
    promise16();
    promise17();
    promise18();
    promise19();
    Due.end();
  }

  private static void changesNothing(String call, Consumer<WireLamps> look) {
    WireLamps lamps = Made.withAll();
    look.accept(lamps);
    Due.areSame("behind " + call + ", all", Made.allOf(lamps), Made.allOf(Made.withAll()));
  }

  private static void looksChangeNothing() {
    for (int what = 0; what <= 7; what++) {
      int here = what;
      changesNothing("lampOf(0, " + what + ")", lamps -> lamps.lampOf(0, here));
      changesNothing("lampOf(7, " + what + ")", lamps -> lamps.lampOf(7, here));
    }
    for (int what = 0; what <= 10; what++) {
      int here = what;
      changesNothing("count(" + what + ")", lamps -> lamps.count(here));
    }
    changesNothing("pulseAt(0)", lamps -> lamps.pulseAt(0));
    changesNothing("pulseAt(120)", lamps -> lamps.pulseAt(120));
    changesNothing("setting(2)", lamps -> lamps.setting(2));
    changesNothing("firstError()", lamps -> lamps.firstError());
  }

  private static void forecastsChangeNothing() {
    for (int lamp = 0; lamp < 8; lamp++) {
      int here = lamp;
      changesNothing("ifGap(" + lamp + ", 0)", lamps -> lamps.ifGap(here, 0));
      changesNothing("ifGap(" + lamp + ", 1)", lamps -> lamps.ifGap(here, 1));
      changesNothing("bears(" + lamp + ")", lamps -> lamps.bears(here));
      changesNothing("wordsTo(" + lamp + ")", lamps -> lamps.wordsTo(here));
    }
    changesNothing("wrong(0)", lamps -> lamps.wrong(0));
    changesNothing("wrong(4095)", lamps -> lamps.wrong(4095));
    changesNothing("brokenAt()", lamps -> lamps.brokenAt());
    changesNothing("brightness()", lamps -> lamps.brightness());
    changesNothing("digest()", lamps -> lamps.digest());
  }

  // ---- promise 16: lampOf

  private static void promise16() {
    Due.holds("Promise 16", "`lamp`: 0 to 7", () -> {
      WireLamps lamps = Made.withPulses(120);
      lamps.gap();
      for (int lamp = 0; lamp < 8; lamp++) {
        Due.is("lampOf(" + lamp + ", 7)", lamps.lampOf(lamp, 7), 120 - 12 * lamp);
      }
    });
    Due.holds("Promise 16", "0: what it is", () -> {
      WireLamps lamps = new WireLamps();
      for (int lamp = 0; lamp < 8; lamp++) {
        lamps.mode(lamp, (lamp + 1) % 4);
        Due.is("lampOf(" + lamp + ", 0)", lamps.lampOf(lamp, 0), (lamp + 1) % 4);
      }
    });
    Due.holds("Promise 16", "1: the loss ahead of it", () -> {
      WireLamps lamps = new WireLamps();
      for (int lamp = 0; lamp < 8; lamp++) {
        lamps.loss(lamp, 6 - lamp % 7);
        Due.is("lampOf(" + lamp + ", 1)", lamps.lampOf(lamp, 1), 6 - lamp % 7);
      }
    });
    Due.holds("Promise 16", "2: the word that it knows; 3: the word by which it shines", () -> {
      WireLamps lamps = new WireLamps();
      lamps.mode(7, 1);
      for (int lamp = 0; lamp < 8; lamp++) {
        lamps.send(0x801 + 16 * lamp);
      }
      lamps.gap();
      for (int lamp = 0; lamp < 8; lamp++) {
        Due.is("lampOf(" + lamp + ", 2)", lamps.lampOf(lamp, 2), 0x801 + 16 * lamp);
        Due.is("lampOf(" + lamp + ", 3)", lamps.lampOf(lamp, 3), lamp < 7 ? 0x801 + 16 * lamp : 0);
      }
    });
    Due.holds("Promise 16", "4 to 6: the brightness that is shown of the colour 0, 1, 2", LookEdgeTest::shown);
    Due.holds("Promise 16", "7: how many pulses came to it at the last gap", LookEdgeTest::howManyCame);
    Due.holds("Promise 16", "0 without a gap so far", () -> {
      WireLamps lamps = Made.full();
      for (int lamp = 0; lamp < 8; lamp++) {
        Due.is("lampOf(" + lamp + ", 7)", lamps.lampOf(lamp, 7), 0);
      }
      lamps.gap();
      lamps.undo();
      for (int lamp = 0; lamp < 8; lamp++) {
        Due.is("lampOf(" + lamp + ", 7), undone", lamps.lampOf(lamp, 7), 0);
      }
    });
    Due.holds("Promise 16", "Throws `IndexOutOfBoundsException` if there is no such lamp", () -> {
      WireLamps lamps = new WireLamps();
      for (int lamp : Made.NO_LAMPS) {
        for (int what : new int[] {0, 7, 8, -1, MIN, MAX}) {
          Due.refuses(lamps, "lampOf(" + lamp + ", " + what + ")", INDEX, () -> lamps.lampOf(lamp, what));
        }
      }
    });
    Due.holds("Promise 16", "Throws `IllegalArgumentException` if what is not 0 to 7", () -> {
      WireLamps lamps = new WireLamps();
      for (int what : new int[] {-1, 8, MIN, MAX}) {
        Due.refuses(lamps, "lampOf(0, " + what + ")", ARGUMENT, () -> lamps.lampOf(0, what));
        Due.refuses(lamps, "lampOf(7, " + what + ")", ARGUMENT, () -> lamps.lampOf(7, what));
      }
    });
  }

  private static void shown() {
    WireLamps lamps = new WireLamps();
    for (int lamp = 0; lamp < 8; lamp++) {
      lamps.send(0xf70 + lamp);
    }
    lamps.gap();
    Due.is("wanted", lamps.count(6), 8 * 22 + 28);
    for (int lamp = 0; lamp < 8; lamp++) {
      Due.is("lampOf(" + lamp + ", 4)", lamps.lampOf(lamp, 4), 15);
      Due.is("lampOf(" + lamp + ", 5)", lamps.lampOf(lamp, 5), 7);
      Due.is("lampOf(" + lamp + ", 6)", lamps.lampOf(lamp, 6), lamp);
    }
    // Half of it: each is shown as the half of it, rounded down.
    lamps.set(2, 102);
    for (int lamp = 0; lamp < 8; lamp++) {
      Due.is("lampOf(" + lamp + ", 4), half", lamps.lampOf(lamp, 4), 7);
      Due.is("lampOf(" + lamp + ", 5), half", lamps.lampOf(lamp, 5), 3);
      Due.is("lampOf(" + lamp + ", 6), half", lamps.lampOf(lamp, 6), lamp / 2);
    }
  }

  private static void howManyCame() {
    WireLamps lamps = Made.withPulses(120);
    lamps.mode(1, 3);
    lamps.mode(4, 2);
    lamps.gap();
    int[] due = {120, 108, 108, 96, 84, 0, 0, 0};
    for (int lamp = 0; lamp < 8; lamp++) {
      Due.is("lampOf(" + lamp + ", 7)", lamps.lampOf(lamp, 7), due[lamp]);
    }
    Made.addPulses(lamps, 23);
    Due.is("ahead of the next gap", lamps.lampOf(0, 7), 120);
    lamps.gap();
    int[] next = {23, 11, 11, 0, 0, 0, 0, 0};
    for (int lamp = 0; lamp < 8; lamp++) {
      Due.is("lampOf(" + lamp + ", 7) behind it", lamps.lampOf(lamp, 7), next[lamp]);
    }
  }

  // ---- promise 17: pulseAt

  private static void promise17() {
    Due.holds("Promise 17", "`place`: from 0", () -> {
      WireLamps lamps = new WireLamps();
      for (int place = 0; place < 120; place++) {
        lamps.pulse(1 + place % 20);
      }
      for (int place = 0; place < 120; place++) {
        Due.is("pulseAt(" + place + ")", lamps.pulseAt(place), 1 + place % 20);
      }
    });
    Due.holds("Promise 17", "NONE if there are not so many.", () -> {
      for (int pulses : new int[] {0, 1, 119, 120}) {
        WireLamps lamps = Made.withPulses(pulses);
        Due.is("the last", pulses == 0 ? 4 : lamps.pulseAt(pulses - 1), 4);
        for (int place : new int[] {pulses, pulses + 1, 120, 121, MAX}) {
          Due.is("pulseAt(" + place + ") of " + pulses, lamps.pulseAt(place), WireLamps.NONE);
        }
        lamps.drop();
        Due.is("pulseAt(0) of none", lamps.pulseAt(0), WireLamps.NONE);
      }
    });
    Due.holds("Promise 17", "Throws `IllegalArgumentException` if place is below 0", () -> {
      for (WireLamps lamps : new WireLamps[] {new WireLamps(), Made.full()}) {
        Due.refuses(lamps, "pulseAt(-1)", ARGUMENT, () -> lamps.pulseAt(-1));
        Due.refuses(lamps, "pulseAt(MIN)", ARGUMENT, () -> lamps.pulseAt(MIN));
      }
    });
  }

  // ---- promise 18: count

  private static void promise18() {
    Due.holds("Promise 18", "0: pulses of the frame", () -> {
      for (int pulses : new int[] {0, 1, 119, 120}) {
        Due.is("count(0)", Made.withPulses(pulses).count(0), pulses);
      }
    });
    Due.holds("Promise 18", "1: gaps so far", () -> {
      WireLamps lamps = new WireLamps();
      for (int gaps = 0; gaps < 9; gaps++) {
        Due.is("count(1)", lamps.count(1), gaps);
        lamps.gap();
      }
      Due.write(lamps, "000!");
      lamps.load();
      Due.is("count(1) behind a text with a gap", lamps.count(1), 10);
    });
    Due.holds("Promise 18",
        "2: pulses sent so far (those that came to a gap, were dropped, or are in the frame)", LookEdgeTest::sent);
    Due.holds("Promise 18", "3: pulses that lamps took so far", LookEdgeTest::taken);
    Due.holds("Promise 18", "4: pulses that were lost so far: that came to a gap, and were taken by none",
        LookEdgeTest::lost);
    Due.holds("Promise 18", "5: pulses dropped so far", () -> {
      WireLamps lamps = Made.withPulses(120);
      lamps.drop();
      Made.addPulses(lamps, 1);
      lamps.drop();
      lamps.drop();
      Made.addPulses(lamps, 12);
      lamps.gap();
      Due.is("count(5)", lamps.count(5), 121);
    });
    Due.holds("Promise 18", "6: the current wanted", () -> {
      WireLamps lamps = Made.knowing(0xfff);
      Due.is("count(6), the most", lamps.count(6), 360);
      lamps.set(2, 0);
      Due.is("count(6) without current", lamps.count(6), 360);
      Due.is("count(6), the least", new WireLamps().count(6), 0);
    });
    Due.holds("Promise 18", "7: the brightness of all that is shown, together", () -> {
      WireLamps lamps = Made.knowing(0xfff);
      Due.is("count(7), the most", lamps.count(7), 360);
      lamps.set(2, 359);
      Due.is("count(7), each rounded for itself", lamps.count(7), 336);
      lamps.set(2, 0);
      Due.is("count(7) without current", lamps.count(7), 0);
      Due.is("count(7), the least", new WireLamps().count(7), 0);
    });
    Due.holds("Promise 18", "8: lamps that shine (by a word other than 0)", LookEdgeTest::lampsThatShine);
    Due.holds("Promise 18", "9: what was refused so far", LookEdgeTest::refused);
    Due.holds("Promise 18", "10: saved states", () -> {
      WireLamps lamps = new WireLamps();
      for (int calls = 0; calls < 9; calls++) {
        Due.is("count(10)", lamps.count(10), calls < 6 ? calls : 6);
        lamps.drop();
      }
    });
    Due.holds("Promise 18", "Throws `IllegalArgumentException` if what is not 0 to 10", () -> {
      WireLamps lamps = new WireLamps();
      for (int what : new int[] {-1, 11, MIN, MAX}) {
        Due.refuses(lamps, "count(" + what + ")", ARGUMENT, () -> lamps.count(what));
      }
    });
  }

  private static void sent() {
    WireLamps lamps = Made.withPulses(100);
    Due.is("in the frame", lamps.count(2), 100);
    lamps.gap();
    Due.is("came to a gap", lamps.count(2), 100);
    Made.addPulses(lamps, 13);
    lamps.drop();
    Due.is("dropped", lamps.count(2), 113);
    Made.addPulses(lamps, 120);
    Due.is("in the frame, too", lamps.count(2), 233);
    lamps.pulse(1);
    lamps.send(1);
    Due.write(lamps, "000");
    lamps.load();
    Due.is("what is refused is not sent", lamps.count(2), 233);
    lamps.gap();
    Due.write(lamps, "000,111!");
    lamps.load();
    Due.is("a text with a gap", lamps.count(2), 257);
    lamps.undo();
    Due.is("what is undone is not sent", lamps.count(2), 233);
  }

  private static void taken() {
    for (int pulses : new int[] {0, 11, 12, 23, 24, 95, 96, 107, 108, 120}) {
      WireLamps lamps = Made.withPulses(pulses);
      lamps.gap();
      int words = pulses / 12 < 8 ? pulses / 12 : 8;
      Due.is("count(3) of " + pulses, lamps.count(3), 12 * words);
      Due.is("count(4) of " + pulses, lamps.count(4), pulses - 12 * words);
      lamps.send(0);
      lamps.gap();
      Due.is("count(3) of 12 more", lamps.count(3), 12 * words + 12);
    }
    WireLamps lamps = Made.withPulses(120);
    lamps.mode(0, 1);
    lamps.mode(1, 3);
    lamps.mode(6, 2);
    lamps.gap();
    Due.is("a dark lamp takes, a bridged and a broken one do not", lamps.count(3), 60);
  }

  private static void lost() {
    WireLamps lamps = new WireLamps();
    lamps.gap();
    Due.is("of none", lamps.count(4), 0);
    Made.addPulses(lamps, 11);
    Due.is("they did not come to a gap", lamps.count(4), 0);
    lamps.gap();
    Due.is("fewer than a word", lamps.count(4), 11);
    Made.addPulses(lamps, 96);
    lamps.gap();
    Due.is("a word for each", lamps.count(4), 11);
    Made.addPulses(lamps, 97);
    lamps.gap();
    Due.is("one behind the last lamp", lamps.count(4), 12);
    Made.addPulses(lamps, 5);
    lamps.drop();
    Due.is("dropped ones are not lost", lamps.count(4), 12);
    for (int lamp = 0; lamp < 8; lamp++) {
      lamps.mode(lamp, 3);
    }
    Made.addPulses(lamps, 120);
    lamps.gap();
    Due.is("bridges take none", lamps.count(4), 132);
    lamps.mode(0, 2);
    Made.addPulses(lamps, 120);
    lamps.gap();
    Due.is("a broken lamp takes none", lamps.count(4), 252);
  }

  private static void lampsThatShine() {
    for (int words = 0; words <= 8; words++) {
      WireLamps lamps = new WireLamps();
      Due.sendTimes(lamps, 0x001, words);
      Due.sendTimes(lamps, 0, 8 - words);
      lamps.gap();
      Due.is("count(8)", lamps.count(8), words);
      lamps.set(2, 0);
      Due.is("count(8) where nothing is shown", lamps.count(8), words);
      lamps.mode(0, 1);
      Due.is("count(8) ahead of the gap", lamps.count(8), words);
      lamps.gap();
      Due.is("count(8) with a dark lamp", lamps.count(8), words > 0 ? words - 1 : 0);
    }
    Due.is("by the highest bit alone", Made.knowing(0x800).count(8), 8);
  }

  private static void refused() {
    WireLamps lamps = Made.full();
    Due.is("nothing so far", lamps.count(9), 0);
    lamps.pulse(1);
    Due.is("a pulse", lamps.count(9), 1);
    lamps.send(1);
    Due.is("a word", lamps.count(9), 2);
    Due.write(lamps, "000,000,000!");
    lamps.load();
    Due.is("a text, whose words count as one", lamps.count(9), 3);
    Due.refuses(lamps, "pulse(0)", ARGUMENT, () -> lamps.pulse(0));
    Due.is("an exception is no refusal", lamps.count(9), 3);
    lamps.gap();
    lamps.drop();
    Due.is("it stays", lamps.count(9), 3);
  }

  // ---- promise 19: setting

  private static void promise19() {
    Due.holds("Promise 19", "`setting`: 0 to 2", () -> {
      WireLamps lamps = new WireLamps();
      Due.is("setting(0)", lamps.setting(0), 6);
      Due.is("setting(1)", lamps.setting(1), 1);
      Due.is("setting(2)", lamps.setting(2), 360);
    });
    Due.holds("Promise 19", "Returns its value.", () -> {
      WireLamps lamps = new WireLamps();
      lamps.set(0, 12);
      lamps.set(1, 0);
      lamps.set(2, 5);
      Due.is("setting(0)", lamps.setting(0), 12);
      Due.is("setting(1)", lamps.setting(1), 0);
      Due.is("setting(2)", lamps.setting(2), 5);
      lamps.undo();
      Due.is("setting(2), undone", lamps.setting(2), 360);
    });
    Due.holds("Promise 19", "Throws `IndexOutOfBoundsException` if there is no such setting", () -> {
      WireLamps lamps = new WireLamps();
      for (int setting : new int[] {-1, 3, MIN, MAX}) {
        Due.refuses(lamps, "setting(" + setting + ")", INDEX, () -> lamps.setting(setting));
      }
    });
  }
}
