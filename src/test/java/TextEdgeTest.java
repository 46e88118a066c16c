/** The edges of input text and of the promises 9 to 12: append, clearBuffer, firstError, load. */
final class TextEdgeTest {
  private static final Class<IllegalArgumentException> ARGUMENT = IllegalArgumentException.class;
  private static final Class<IllegalStateException> STATE = IllegalStateException.class;

  public static void main(String[] args) {
    text();
    promise9();
    promise10();
    promise11();
    promise12();
    Due.end();
  }

  // ---- input text

  private static void text() {
    Due.holds("Input text", "The buffer has at most 60 characters.", TextEdgeTest::sixtyCharacters);
    Due.holds("Input text", "A frame as a text is one to ten words", TextEdgeTest::oneToTenWords);
    Due.holds("Input text", "with \",\" between them", TextEdgeTest::commas);
    Due.holds("Input text", "each of three digits", TextEdgeTest::threeDigits);
    Due.holds("Input text", "\"0\" to \"9\" or \"a\" to \"f\"", TextEdgeTest::digits);
    Due.holds("Input text", "one for each colour", () -> {
      WireLamps lamps = Made.withText("0f8!");
      lamps.load();
      Due.is("colour 0", lamps.lampOf(0, 4), 0);
      Due.is("colour 1", lamps.lampOf(0, 5), 15);
      Due.is("colour 2", lamps.lampOf(0, 6), 8);
    });
    Due.holds("Input text", "and then perhaps \"!\" (a gap)", TextEdgeTest::perhapsGap);
    Due.holds("Input text",
        "a character is a syntax error if no frame as a text begins with the characters before it and this character",
        TextEdgeTest::syntaxErrors);
  }

  private static void sixtyCharacters() {
    WireLamps lamps = new WireLamps();
    for (int i = 1; i <= 60; i++) {
      Due.is("the character " + i, lamps.append('0'), i);
    }
    Due.refuses(lamps, "the character 61", STATE, () -> lamps.append('0'));
    Due.is("clearBuffer()", lamps.clearBuffer(), 60);
    Due.is("behind it", lamps.append('0'), 1);
  }

  /** What load() of the text answers on a new object: its words, or -2 if it throws an exception as it must. */
  private static int loaded(String text) {
    WireLamps lamps = Made.withText(text);
    try {
      return lamps.load();
    } catch (IllegalArgumentException e) {
      return -2;
    }
  }

  private static void oneToTenWords() {
    Due.is("no word", loaded(""), -2);
    StringBuilder text = new StringBuilder();
    for (int words = 1; words <= 10; words++) {
      text.append(words > 1 ? "," : "").append("7f0");
      Due.is(words + " words", loaded(text.toString()), words);
      Due.is(words + " words and a gap", loaded(text + "!"), words);
    }
    Due.is("eleven words", loaded(text + ",7f0"), -2);
    Due.is("eleven words and a gap", loaded(text + ",7f0!"), -2);
    WireLamps lamps = Made.withText(text + ",");
    Due.is("the comma behind ten words", lamps.firstError(), 39);
  }

  private static void commas() {
    Due.is("no comma", loaded("000000"), -2);
    Due.is("two commas", loaded("000,,000"), -2);
    Due.is("a comma ahead", loaded(",000"), -2);
    Due.is("a comma behind", loaded("000,"), -2);
    Due.is("another sign", loaded("000.000"), -2);
    Due.is("a comma ahead of the gap", loaded("000,!"), -2);
    Due.is("a comma each", loaded("000,000,000"), 3);
  }

  private static void threeDigits() {
    String[] wrong = {"0", "00", "0000", "0!", "00!", "0000!", "000,0", "000,00", "000,0000", "000,00!", "0,000"};
    for (String text : wrong) {
      Due.is(text, loaded(text), -2);
    }
    Due.is("three", loaded("000"), 1);
  }

  private static void digits() {
    for (int code = 33; code <= 126; code++) {
      boolean digit = "0123456789abcdef".indexOf(code) >= 0;
      char sign = (char) code;
      Due.is(sign + " as the first", Made.withText(sign + "").firstError(), digit ? 1 : 0);
      Due.is(sign + " as the second", Made.withText("0" + sign).firstError(), digit ? 2 : 1);
      Due.is(sign + " as the third", Made.withText("00" + sign).firstError(), digit ? 3 : 2);
      Due.is(sign + " behind a comma", Made.withText("000," + sign).firstError(), digit ? 5 : 4);
    }
    for (int digit = 0; digit < 16; digit++) {
      WireLamps lamps = Made.withText("0123456789abcdef".charAt(digit) + "00!");
      lamps.load();
      Due.is("the digit " + digit, lamps.lampOf(0, 2), 256 * digit);
    }
  }

  private static void perhapsGap() {
    WireLamps without = Made.withText("123");
    without.load();
    Due.is("no gap", without.count(1), 0);
    Due.is("the frame", without.count(0), 12);
    WireLamps with = Made.withText("123!");
    with.load();
    Due.is("a gap", with.count(1), 1);
    Due.is("no frame", with.count(0), 0);
    Due.is("two gaps", loaded("123!!"), -2);
    Due.is("a gap alone", loaded("!"), -2);
    Due.is("a gap ahead", loaded("!123"), -2);
    Due.is("a gap between words", loaded("123!123"), -2);
    Due.is("a gap between words, with a comma", loaded("123!,123"), -2);
  }

  private static void syntaxErrors() {
    for (int code = 33; code <= 126; code++) {
      char sign = (char) code;
      boolean behindWord = sign == ',' || sign == '!';
      Due.is(sign + " behind a word", Made.withText("000" + sign).firstError(), behindWord ? 4 : 3);
      Due.is(sign + " behind ten words", Made.withText(Made.TEN_WORDS + sign).firstError(), sign == '!' ? 40 : 39);
      Due.is(sign + " behind a gap", Made.withText("000!" + sign).firstError(), 4);
      Due.is(sign + " behind ten words and a gap", Made.withText(Made.TEN_WORDS + "!" + sign).firstError(), 40);
    }
    Due.is("a text that is only begun has no error", Made.withText("000,0").firstError(), 5);
    Due.is("an empty one, too", new WireLamps().firstError(), 0);
  }

  // ---- promise 9: append

  private static void promise9() {
    Due.holds("Promise 9", "Appends a character to the buffer.", TextEdgeTest::appendsBehind);
    Due.holds("Promise 9", "the character code, 33 to 126", TextEdgeTest::codes);
    Due.holds("Promise 9", "Returns the new length of the buffer.", TextEdgeTest::newLength);
    Due.holds("Promise 9", "if code is not 33 to 126", TextEdgeTest::otherCodes);
    Due.holds("Promise 9", "if the buffer has 60 characters", TextEdgeTest::fullBuffer);
  }

  private static void appendsBehind() {
    WireLamps lamps = new WireLamps();
    lamps.append('1');
    lamps.append('2');
    lamps.append('f');
    lamps.append('!');
    lamps.load();
    Due.is("the characters in their order", lamps.lampOf(0, 2), 0x12f);
  }

  private static void codes() {
    for (int code = 33; code <= 126; code++) {
      WireLamps lamps = new WireLamps();
      Due.is("append(" + code + ")", lamps.append(code), 1);
      Due.is("digest() with it", lamps.digest(), ForecastTest.digestOf(lamps, false, false, "" + (char) code));
    }
  }

  private static void newLength() {
    WireLamps lamps = new WireLamps();
    for (int length = 1; length <= 60; length++) {
      Due.is("append() to " + (length - 1), lamps.append('z'), length);
    }
    lamps.clearBuffer();
    Due.is("append() to a cleared buffer", lamps.append('z'), 1);
    WireLamps loaded = Made.withText("000");
    loaded.load();
    Due.is("append() behind load()", loaded.append('z'), 1);
  }

  private static void otherCodes() {
    WireLamps lamps = Made.withText("00");
    int[] codes = {32, 127, 0, 10, -1, -33, 128, 255, 256 + 48, 65536 + 48, Integer.MIN_VALUE, Integer.MAX_VALUE};
    for (int code : codes) {
      Due.refuses(lamps, "append(" + code + ")", ARGUMENT, () -> lamps.append(code));
    }
    Due.is("the buffer is as it was", lamps.append('0'), 3);
  }

  private static void fullBuffer() {
    WireLamps lamps = Made.withText("0".repeat(59));
    Due.is("append() to 59", lamps.append('0'), 60);
    for (int code : new int[] {33, 48, 126}) {
      Due.refuses(lamps, "append(" + code + ") to 60", STATE, () -> lamps.append(code));
    }
    Due.refuses(lamps, "append(32) to 60", ARGUMENT, () -> lamps.append(32));
    Due.is("firstError() of 60", lamps.firstError(), 3);
    Due.is("clearBuffer()", lamps.clearBuffer(), 60);
  }

  // ---- promise 10: clearBuffer

  private static void promise10() {
    Due.holds("Promise 10", "Clears the buffer.", () -> {
      WireLamps lamps = Made.withText("fff!");
      lamps.clearBuffer();
      Due.is("firstError()", lamps.firstError(), 0);
      Due.refuses(lamps, "load() of a cleared buffer", ARGUMENT, () -> lamps.load());
      Due.write(lamps, "00");
      Due.is("nothing of before comes back", lamps.firstError(), 2);
      Due.is("digest()", lamps.digest(), ForecastTest.digestOf(lamps, false, false, "00"));
    });
    Due.holds("Promise 10", "Returns the length that it had.", () -> {
      for (int length : new int[] {0, 1, 59, 60}) {
        WireLamps lamps = Made.withText("~".repeat(length));
        Due.is("clearBuffer() of " + length, lamps.clearBuffer(), length);
        Due.is("clearBuffer() again", lamps.clearBuffer(), 0);
      }
    });
  }

  // ---- promise 11: firstError

  private static void promise11() {
    Due.holds("Promise 11", "Returns the index of the first character that is a syntax error",
        TextEdgeTest::firstOfErrors);
    Due.holds("Promise 11", "the length of the buffer if there is none", TextEdgeTest::noError);
  }

  private static void firstOfErrors() {
    String whole = Made.TEN_WORDS + "!";
    for (int place = 0; place < whole.length(); place++) {
      WireLamps lamps = Made.withText(whole.substring(0, place) + "x" + whole.substring(place) + "y");
      Due.is("a sign too many at " + place, lamps.firstError(), place);
    }
    Due.is("the first of 60", Made.withText("g".repeat(60)).firstError(), 0);
    Due.is("behind the whole text", Made.withText(whole + "0").firstError(), 40);
  }

  private static void noError() {
    String whole = Made.TEN_WORDS + "!";
    for (int length = 0; length <= whole.length(); length++) {
      WireLamps lamps = Made.withText(whole.substring(0, length));
      Due.is("the first " + length, lamps.firstError(), length);
      Due.is("again", lamps.firstError(), length);
      Due.is("the buffer stays", lamps.clearBuffer(), length);
    }
  }

  // ---- promise 12: load

  private static void promise12() {
    Due.holds("Promise 12", "Sends the words in the buffer as send() does", TextEdgeTest::asSendDoes);
    Due.holds("Promise 12", "behind the pulses of the frame", TextEdgeTest::behindTheFrame);
    Due.holds("Promise 12", "and lets a gap be, if it tells one", TextEdgeTest::gapIfTold);
    Due.holds("Promise 12", "and clears the buffer", () -> {
      for (String text : new String[] {"fff", "fff!", Made.TEN_WORDS, Made.TEN_WORDS + "!"}) {
        WireLamps lamps = Made.withText(text);
        lamps.load();
        Due.is("the buffer behind " + text, lamps.clearBuffer(), 0);
      }
    });
    Due.holds("Promise 12", "Undoable, also if it is refused (the buffer is cleared then, too).",
        TextEdgeTest::undoableLoad);
    Due.holds("Promise 12", "Returns how many words are sent", TextEdgeTest::howManyWords);
    Due.holds("Promise 12", "NONE if it is refused, as the frame would have more than 120 pulses",
        TextEdgeTest::moreThan120);
    Due.holds("Promise 12", "nothing is sent then", TextEdgeTest::nothingIsSent);
    Due.holds("Promise 12", "if the buffer does not tell a frame as a text", TextEdgeTest::noFrame);
  }

  private static void asSendDoes() {
    WireLamps lamps = Made.withText("000,fff,801,7fe,5a5");
    lamps.load();
    WireLamps twin = new WireLamps();
    for (int word : new int[] {0x000, 0xfff, 0x801, 0x7fe, 0x5a5}) {
      twin.send(word);
    }
    for (int place = 0; place <= 60; place++) {
      Due.is("pulseAt(" + place + ")", lamps.pulseAt(place), twin.pulseAt(place));
    }
    Due.is("pulses sent", lamps.count(2), 60);
  }

  private static void behindTheFrame() {
    for (int ahead : new int[] {0, 1, 11, 108}) {
      WireLamps lamps = Made.withPulses(ahead);
      Due.write(lamps, "fff");
      lamps.load();
      Due.is("count(0) behind " + ahead, lamps.count(0), ahead + 12);
      for (int place = 0; place < ahead + 12; place++) {
        Due.is("pulseAt(" + place + ")", lamps.pulseAt(place), place < ahead ? 4 : 8);
      }
    }
  }

  private static void gapIfTold() {
    WireLamps lamps = Made.withPulses(1);
    Due.write(lamps, "fff");
    lamps.load();
    Due.is("none told: gaps", lamps.count(1), 0);
    Due.is("none told: frame", lamps.count(0), 13);
    Due.write(lamps, "123!");
    lamps.load();
    Due.is("told: gaps", lamps.count(1), 1);
    Due.is("told: frame", lamps.count(0), 0);
    Due.is("told: the pulses ahead come first", lamps.lampOf(0, 2), 0x7ff);
    Due.is("told: all came", lamps.lampOf(0, 7), 25);
  }

  private static void undoableLoad() {
    for (String text : new String[] {"fff", "fff!"}) {
      WireLamps lamps = Made.withPulses(3);
      Due.write(lamps, text);
      lamps.load();
      Due.is("one state is saved by " + text, lamps.count(10), 4);
      lamps.undo();
      Due.is("frame", lamps.count(0), 3);
      Due.is("gaps", lamps.count(1), 0);
      Due.is("the buffer does not come back", lamps.clearBuffer(), 0);
      WireLamps full = Made.full();
      Due.write(full, text);
      Due.is("load() to a full frame", full.load(), WireLamps.NONE);
      Due.is("a refusal saves a state, too", full.count(10), 2);
      Due.is("refusals", full.count(9), 1);
      Due.is("the buffer is cleared then, too", full.clearBuffer(), 0);
      Due.is("undo()", full.undo(), 1);
      Due.is("frame of before", full.count(0), 120);
      Due.is("refusals of before", full.count(9), 0);
      Due.is("the buffer stays cleared", full.clearBuffer(), 0);
    }
  }

  private static void howManyWords() {
    for (int words = 1; words <= 10; words++) {
      String text = Made.TEN_WORDS.substring(0, 4 * words - 1);
      Due.is(text, Made.withText(text).load(), words);
      Due.is(text + "!", Made.withText(text + "!").load(), words);
    }
  }

  private static void moreThan120() {
    for (int words = 1; words <= 10; words++) {
      String text = Made.TEN_WORDS.substring(0, 4 * words - 1);
      WireLamps fits = Made.withPulses(120 - 12 * words);
      Due.write(fits, text);
      Due.is(words + " words fit", fits.load(), words);
      Due.is("the frame is full", fits.count(0), 120);
      Due.is("nothing is refused", fits.count(9), 0);
      WireLamps tight = Made.withPulses(121 - 12 * words);
      Due.write(tight, text);
      Due.is(words + " words and one pulse too many", tight.load(), WireLamps.NONE);
      Due.is("one is refused", tight.count(9), 1);
      WireLamps gap = Made.withPulses(121 - 12 * words);
      Due.write(gap, text + "!");
      Due.is(words + " words and one pulse too many, and a gap", gap.load(), WireLamps.NONE);
      Due.is("one is refused", gap.count(9), 1);
    }
  }

  private static void nothingIsSent() {
    WireLamps lamps = Made.withPulses(13);
    Due.write(lamps, Made.TEN_WORDS + "!");
    Due.is("nine of ten words would fit", lamps.load(), WireLamps.NONE);
    Due.is("frame", lamps.count(0), 13);
    Due.is("pulses sent", lamps.count(2), 13);
    Due.is("no gap is either", lamps.count(1), 0);
    Due.is("pulseAt(13)", lamps.pulseAt(13), WireLamps.NONE);
  }

  private static void noFrame() {
    String[] texts = {"", "0", "00", "00!", "!", ",", "0000", "000,", "000,!", "000,0", "000!!", "000!0", "00g", "00F",
        "000,000,", Made.TEN_WORDS + ",", Made.TEN_WORDS + ",aaa", Made.TEN_WORDS + "!!", "0".repeat(60)};
    for (String text : texts) {
      WireLamps lamps = Made.withText(text);
      Due.refuses(lamps, "load() of " + text, ARGUMENT, () -> lamps.load());
      Due.is("no state is saved", lamps.count(10), 0);
    }
    // It throws ahead of a refusal: a full frame does not matter.
    WireLamps full = Made.withPulses(120);
    Due.write(full, "00");
    Due.refuses(full, "load() of a wrong text behind a full frame", ARGUMENT, () -> full.load());
    Due.is("nothing is refused", full.count(9), 0);
    Due.is("the buffer stays", full.clearBuffer(), 2);
  }
}
