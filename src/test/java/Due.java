/** What the tests say of an answer: whether it is the one that is due. */
final class Due {
  interface Call {
    void run();
  }

  private static int wrong = 0;
  private static int sentences = 0;
  private static String sentence = "";

  private Due() {
  }

  /** Runs the test of one sentence of the document; what it finds wrong is told with that sentence. */
  static void holds(String where, String words, Call test) {
    sentences++;
    sentence = where + ", \"" + words + "\": ";
    try {
      test.run();
    } catch (RuntimeException e) {
      tell("the test ended with " + e);
    }
    sentence = "";
  }

  private static void tell(String what) {
    wrong++;
    System.out.println(sentence + what);
  }

  static void is(String call, long got, long want) {
    if (got != want) {
      tell(call + " answered " + got + ", due is " + want);
    }
  }

  static void areSame(String call, String got, String want) {
    if (!got.equals(want)) {
      tell(call + " is " + got + ", due is " + want);
    }
  }

  static void isDouble(String call, double got, double want) {
    is(call + " (" + got + ", due is " + want + ")", Double.doubleToLongBits(got), Double.doubleToLongBits(want));
  }

  /** The call must throw exactly this exception and leave the object as it was. */
  static void refuses(WireLamps lamps, String call, Class<? extends RuntimeException> want, Call run) {
    long before = lamps.digest();
    String got = "nothing";
    try {
      run.run();
    } catch (RuntimeException e) {
      got = e.getClass().getSimpleName();
    }
    if (!got.equals(want.getSimpleName())) {
      tell(call + " threw " + got + ", due is " + want.getSimpleName());
    }
    is(call + " throws, so the digest", lamps.digest(), before);
  }

  static void end() {
    if (wrong != 0) {
      System.out.println(wrong + " answers are not as due");
      System.exit(1);
    }
    System.out.println("all answers are as due" + (sentences > 0 ? ", of " + sentences + " sentences" : ""));
  }

  static void write(WireLamps lamps, String text) {
    lamps.clearBuffer();
    for (int i = 0; i < text.length(); i++) {
      lamps.append(text.charAt(i));
    }
  }

  static void sendTimes(WireLamps lamps, int word, int times) {
    for (int i = 0; i < times; i++) {
      lamps.send(word);
    }
  }
}
