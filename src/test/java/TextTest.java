/** Promises 9 to 12: append, clearBuffer, firstError, load. */
final class TextTest {
  private static final Class<IllegalArgumentException> ARGUMENT = IllegalArgumentException.class;
  private static final String TEN = "000,111,222,333,444,555,666,777,888,999";

  public static void main(String[] args) {
    buffer();
    errors();
    loads();
    refusedTexts();
    refusedLoads();
    Due.end();
  }

  private static void buffer() {
    WireLamps lamps = new WireLamps();
    Due.is("append(33)", lamps.append(33), 1);
    Due.is("append(126)", lamps.append(126), 2);
    Due.refuses(lamps, "append(32)", ARGUMENT, () -> lamps.append(32));
    Due.refuses(lamps, "append(127)", ARGUMENT, () -> lamps.append(127));
    Due.refuses(lamps, "append(-1)", ARGUMENT, () -> lamps.append(-1));
    Due.refuses(lamps, "append(65536 + 48)", ARGUMENT, () -> lamps.append(65536 + 48));
    for (int i = 3; i <= 60; i++) {
      Due.is("append " + i, lamps.append(48), i);
    }
    Due.refuses(lamps, "append to a full buffer", IllegalStateException.class, () -> lamps.append(48));
    Due.refuses(lamps, "append(32) to a full buffer", ARGUMENT, () -> lamps.append(32));
    Due.is("append saves no state", lamps.count(10), 0);
    Due.is("clearBuffer()", lamps.clearBuffer(), 60);
    Due.is("clearBuffer() again", lamps.clearBuffer(), 0);
    Due.is("append behind clearBuffer()", lamps.append(48), 1);
    Due.is("clearBuffer() saves no state", lamps.count(10), 0);
  }

  private static void error(String text, int place) {
    WireLamps lamps = new WireLamps();
    Due.write(lamps, text);
    Due.is("firstError() of " + text, lamps.firstError(), place);
    Due.is("firstError() leaves the buffer", lamps.clearBuffer(), text.length());
  }

  private static void errors() {
    error("", 0);
    error("0", 1);
    error("09af", 3);
    error("/", 0);
    error(":", 0);
    error("`", 0);
    error("g", 0);
    error("A", 0);
    error("F", 0);
    error("!", 0);
    error(",", 0);
    error("0!", 1);
    error("00,", 2);
    error("000", 3);
    error("000!", 4);
    error("000!!", 4);
    error("000!0", 4);
    error("000!,", 4);
    error("000,", 4);
    error("000,,", 4);
    error("000,!", 4);
    error("000,00!", 6);
    error("000.", 3);
    error(TEN, 39);
    error(TEN + ",", 39);
    error(TEN + "0", 39);
    error(TEN + "!", 40);
    error(TEN + "!!", 40);
    error(TEN + "!,00", 40);
    error("fffx" + TEN, 3);
  }

  private static void loads() {
    WireLamps lamps = new WireLamps();
    lamps.pulse(20);
    Due.write(lamps, "0af,900");
    Due.is("load() of two words", lamps.load(), 2);
    Due.is("frame", lamps.count(0), 25);
    Due.is("the pulse ahead stays", lamps.pulseAt(0), 20);
    int[] bits = {0, 0, 0, 0, 1, 0, 1, 0, 1, 1, 1, 1, 1, 0, 0, 1, 0, 0, 0, 0, 0, 0, 0, 0};
    for (int i = 0; i < bits.length; i++) {
      Due.is("pulse " + (i + 1), lamps.pulseAt(i + 1), bits[i] == 1 ? 8 : 4);
    }
    Due.is("the buffer is cleared", lamps.clearBuffer(), 0);
    Due.is("no gap", lamps.count(1), 0);
    Due.is("load() saves one state", lamps.count(10), 2);
    Due.write(lamps, "fff!");
    Due.is("undo() leaves the buffer", lamps.undo(), 1);
    Due.is("undone load()", lamps.count(0), 1);
    Due.is("the buffer stays", lamps.clearBuffer(), 4);
    lamps.drop();
    Due.write(lamps, TEN + "!");
    Due.is("load() of ten words and a gap", lamps.load(), 10);
    Due.is("frame behind it", lamps.count(0), 0);
    Due.is("gaps", lamps.count(1), 1);
    Due.is("last lamp", lamps.lampOf(7, 3), 0x777);
    Due.is("taken", lamps.count(3), 96);
    Due.is("lost", lamps.count(4), 24);
    lamps.undo();
    Due.is("undone with its gap", lamps.count(1), 0);
    Due.is("undone with its words", lamps.count(0), 0);
  }

  private static void refusedTexts() {
    String[] texts = {"", "f", "ff", "ffff", "fff,", "fff,0", "fff,00", "fff,!", "!", "fff!!", "ff!", "ffg",
        TEN + ",", TEN + ",fff", TEN + "!!", "fff!,fff", "FFF"};
    for (String text : texts) {
      WireLamps lamps = new WireLamps();
      Due.write(lamps, text);
      Due.refuses(lamps, "load() of " + text, ARGUMENT, () -> lamps.load());
      Due.is("the buffer stays", lamps.clearBuffer(), text.length());
    }
  }

  private static void refusedLoads() {
    WireLamps lamps = new WireLamps();
    Due.sendTimes(lamps, 4095, 9);
    Due.write(lamps, "000");
    Due.is("load() of a word that just fits", lamps.load(), 1);
    lamps.undo();
    Due.write(lamps, "000,000!");
    Due.is("load() of two words to nine", lamps.load(), WireLamps.NONE);
    Due.is("nothing is sent", lamps.count(0), 108);
    Due.is("no gap was", lamps.count(1), 0);
    Due.is("refused", lamps.count(9), 1);
    Due.is("the buffer is cleared", lamps.clearBuffer(), 0);
    Due.is("a refused load() saves a state", lamps.undo(), 5);
    Due.is("refused, undone", lamps.count(9), 0);
    lamps.pulse(1);
    Due.write(lamps, "000");
    Due.is("load() with one pulse too many", lamps.load(), WireLamps.NONE);
  }
}
