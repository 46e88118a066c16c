import java.util.function.Consumer;

/** What the document tells of exceptions, sentence by sentence, and of how long an object is used. */
final class ExceptionEdgeTest {
  private static final Class<IndexOutOfBoundsException> INDEX = IndexOutOfBoundsException.class;
  private static final Class<IllegalArgumentException> ARGUMENT = IllegalArgumentException.class;
  private static final Class<IllegalStateException> STATE = IllegalStateException.class;

  public static void main(String[] args) {
    Due.holds("Exceptions", "A call that throws an exception changes nothing", ExceptionEdgeTest::changesNothing);
    Due.holds("Exceptions", "(the buffer stays as it is, too)", ExceptionEdgeTest::bufferStays);
    Due.holds("Exceptions", "the one that is named first in the throws clause is thrown",
        ExceptionEdgeTest::namedFirst);
    Due.holds("Exceptions", "There is nothing to return.", () -> Due.is("NONE", WireLamps.NONE, -1));
    Due.holds("What it is", "An object is used for at most 512 calls", ExceptionEdgeTest::allCalls);
    Due.end();
  }

  private static void throwsWithoutChange(String call, Consumer<WireLamps> throwing) {
    WireLamps lamps = Made.withAll();
    boolean thrown = false;
    try {
      throwing.accept(lamps);
    } catch (IndexOutOfBoundsException | IllegalArgumentException | IllegalStateException e) {
      thrown = true;
    }
    Due.is(call + " throws", thrown ? 1 : 0, 1);
    Due.areSame("behind " + call + ", all", Made.allOf(lamps), Made.allOf(Made.withAll()));
  }

  private static void changesNothing() {
    throwsWithoutChange("mode(8, 0)", lamps -> lamps.mode(8, 0));
    throwsWithoutChange("mode(0, 4)", lamps -> lamps.mode(0, 4));
    throwsWithoutChange("loss(-1, 0)", lamps -> lamps.loss(-1, 0));
    throwsWithoutChange("loss(0, 7)", lamps -> lamps.loss(0, 7));
    throwsWithoutChange("set(3, 0)", lamps -> lamps.set(3, 0));
    throwsWithoutChange("set(0, 13)", lamps -> lamps.set(0, 13));
    throwsWithoutChange("pulse(0)", lamps -> lamps.pulse(0));
    throwsWithoutChange("pulse(21)", lamps -> lamps.pulse(21));
    throwsWithoutChange("send(-1)", lamps -> lamps.send(-1));
    throwsWithoutChange("send(4096)", lamps -> lamps.send(4096));
    throwsWithoutChange("append(32)", lamps -> lamps.append(32));
    throwsWithoutChange("append(127)", lamps -> lamps.append(127));
    throwsWithoutChange("load()", lamps -> lamps.load());
    throwsWithoutChange("keep(2)", lamps -> lamps.keep(2));
    throwsWithoutChange("goBack(-1)", lamps -> lamps.goBack(-1));
    throwsWithoutChange("lampOf(8, 0)", lamps -> lamps.lampOf(8, 0));
    throwsWithoutChange("lampOf(0, 8)", lamps -> lamps.lampOf(0, 8));
    throwsWithoutChange("pulseAt(-1)", lamps -> lamps.pulseAt(-1));
    throwsWithoutChange("count(11)", lamps -> lamps.count(11));
    throwsWithoutChange("setting(3)", lamps -> lamps.setting(3));
    throwsWithoutChange("ifGap(8, 0)", lamps -> lamps.ifGap(8, 0));
    throwsWithoutChange("ifGap(0, 2)", lamps -> lamps.ifGap(0, 2));
    throwsWithoutChange("wrong(4096)", lamps -> lamps.wrong(4096));
    throwsWithoutChange("bears(8)", lamps -> lamps.bears(8));
    throwsWithoutChange("wordsTo(8)", lamps -> lamps.wordsTo(8));
    WireLamps lamps = Made.withText("12");
    Due.refuses(lamps, "undo() of nothing", STATE, () -> lamps.undo());
    Due.refuses(lamps, "goBack(0) to nothing", STATE, () -> lamps.goBack(0));
    Due.areSame("behind both, all", Made.allOf(lamps), Made.allOf(Made.withText("12")));
  }

  private static void bufferStays() {
    String[] texts = {"0", "000,", "000!!", Made.TEN_WORDS + ",", "!!!!"};
    for (String text : texts) {
      WireLamps lamps = Made.withText(text);
      Due.refuses(lamps, "load() of " + text, ARGUMENT, () -> lamps.load());
      Due.is("the buffer", lamps.clearBuffer(), text.length());
    }
    WireLamps full = Made.withText("0".repeat(60));
    Due.refuses(full, "append to a full buffer", STATE, () -> full.append('1'));
    Due.refuses(full, "load() of a full buffer", ARGUMENT, () -> full.load());
    Due.is("the full buffer", full.clearBuffer(), 60);
  }

  private static void namedFirst() {
    WireLamps lamps = Made.withText("0".repeat(60));
    Due.refuses(lamps, "mode(8, 4)", INDEX, () -> lamps.mode(8, 4));
    Due.refuses(lamps, "mode(-1, -1)", INDEX, () -> lamps.mode(-1, -1));
    Due.refuses(lamps, "loss(8, 7)", INDEX, () -> lamps.loss(8, 7));
    Due.refuses(lamps, "loss(-1, -1)", INDEX, () -> lamps.loss(-1, -1));
    Due.refuses(lamps, "set(3, -1)", INDEX, () -> lamps.set(3, -1));
    Due.refuses(lamps, "set(-1, 361)", INDEX, () -> lamps.set(-1, 361));
    Due.refuses(lamps, "append(32) to a full buffer", ARGUMENT, () -> lamps.append(32));
    Due.refuses(lamps, "append(127) to a full buffer", ARGUMENT, () -> lamps.append(127));
    Due.refuses(lamps, "goBack(2), where no snapshot is", ARGUMENT, () -> lamps.goBack(2));
    Due.refuses(lamps, "goBack(-1), where no snapshot is", ARGUMENT, () -> lamps.goBack(-1));
    Due.refuses(lamps, "lampOf(8, 8)", INDEX, () -> lamps.lampOf(8, 8));
    Due.refuses(lamps, "lampOf(-1, -1)", INDEX, () -> lamps.lampOf(-1, -1));
    Due.refuses(lamps, "ifGap(8, 2)", INDEX, () -> lamps.ifGap(8, 2));
    Due.refuses(lamps, "ifGap(-1, -1)", INDEX, () -> lamps.ifGap(-1, -1));
  }

  /** The fullest run: 46 times ten words and a gap, and six calls more. */
  private static void allCalls() {
    WireLamps lamps = new WireLamps();
    for (int i = 0; i < 46; i++) {
      Due.sendTimes(lamps, 4095, 10);
      Due.is("gap() " + i, lamps.gap(), i == 0 ? 8 : 0);
    }
    Due.is("pulses sent", lamps.count(2), 46 * 120);
    Due.is("pulses taken", lamps.count(3), 46 * 96);
    Due.is("pulses lost", lamps.count(4), 46 * 24);
    Due.is("gaps", lamps.count(1), 46);
    Due.is("the 511th call", lamps.undo(), 5);
    Due.is("the 512th call", lamps.count(0), 120);
  }
}
