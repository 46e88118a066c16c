import java.util.Random;
import java.util.TreeMap;
import java.util.function.LongSupplier;

/** Long runs of calls, the same in every session: WireLamps must answer each as PlainModel does. */
final class ModelTest {
  private static final int RUNS = 400;
  private static final int CALLS = 512;
  private static final String SIGNS = "0123456789abcdef,!gAF~";

  private static final TreeMap<String, Integer> SEEN = new TreeMap<>();

  private final WireLamps lamps = new WireLamps();
  private final PlainModel model = new PlainModel();
  private final Random random;
  private final int wildness;
  private int calls;

  private ModelTest(int run) {
    random = new Random(run);
    wildness = run % 4;
  }

  public static void main(String[] args) {
    for (int run = 0; run < RUNS; run++) {
      new ModelTest(run).run(run);
    }
    // A run that never comes to an answer proves nothing of it.
    String[] needed = {"pulse -1", "send -1", "load -1", "load 10", "bears -1", "bears 0", "bears 3",
        "brokenAt -1", "brokenAt 1", "brokenAt 7", "wordsTo 8", "wordsTo -1", "firstError 39", "firstError 40",
        "gap 0", "gap 8", "undo 0", "append java.lang.IllegalStateException",
        "goBack java.lang.IllegalStateException", "undo java.lang.IllegalStateException"};
    for (String answer : needed) {
      Due.is("answers seen of " + answer, SEEN.containsKey(answer) ? 1 : 0, 1);
    }
    Due.end();
  }

  private void run(int run) {
    while (calls < CALLS) {
      step();
      if (calls % 4 == 0) {
        same("digest", () -> lamps.digest(), () -> model.digest());
      }
    }
  }

  private static String answer(LongSupplier call) {
    try {
      return Long.toString(call.getAsLong());
    } catch (RuntimeException e) {
      return e.getClass().getName();
    }
  }

  private void same(String call, LongSupplier program, LongSupplier plain) {
    calls++;
    String got = answer(program);
    String want = answer(plain);
    if (!call.equals("digest")) {
      SEEN.merge(call + " " + want, 1, Integer::sum);
    }
    if (!got.equals(want)) {
      Due.is("call " + calls + ": " + call + " answered " + got + ", due is " + want + "; equal", 0, 1);
    }
  }

  /** Mostly from 0 up to ahead of the bound, sometimes beside it. */
  private int upTo(int bound) {
    int odd = random.nextInt(60);
    if (odd == 0) {
      return -1;
    }
    if (odd == 1) {
      return bound;
    }
    if (odd == 2) {
      return random.nextBoolean() ? Integer.MAX_VALUE : Integer.MIN_VALUE;
    }
    return random.nextInt(bound);
  }

  private void step() {
    int kind = random.nextInt(30);
    if (kind < 10) {
      sendSomething(kind);
    } else if (kind < 15) {
      changeRow(kind);
    } else if (kind < 18) {
      writeText();
    } else if (kind < 21) {
      history(kind);
    } else {
      look(kind);
    }
  }

  private void sendSomething(int kind) {
    if (kind < 5) {
      int word = upTo(4096);
      int times = random.nextInt(6) == 0 ? 9 : 1;
      for (int i = 0; i < times; i++) {
        same("send", () -> lamps.send(word), () -> model.send(word));
      }
    } else if (kind < 7) {
      int times = random.nextInt(14);
      for (int i = 0; i < times; i++) {
        int length = upTo(21);
        same("pulse", () -> lamps.pulse(length), () -> model.pulse(length));
      }
    } else if (kind < 9) {
      same("gap", () -> lamps.gap(), () -> model.gap());
    } else {
      same("drop", () -> lamps.drop(), () -> model.drop());
    }
  }

  private void changeRow(int kind) {
    int lamp = upTo(8);
    if (kind < 11) {
      int mode = wildness == 0 ? 0 : random.nextInt(4) < 4 - wildness ? 0 : upTo(4);
      same("mode", () -> lamps.mode(lamp, mode), () -> model.mode(lamp, mode));
    } else if (kind < 13) {
      int loss = wildness < 2 && random.nextInt(4) != 0 ? random.nextInt(2) : upTo(7);
      same("loss", () -> lamps.loss(lamp, loss), () -> model.loss(lamp, loss));
    } else if (kind == 13) {
      int setting = upTo(2);
      int value = setting == 0 ? upTo(13) : upTo(2);
      same("set", () -> lamps.set(setting, value), () -> model.set(setting, value));
    } else {
      int setting = upTo(3);
      int value = setting == 2 ? upTo(361) : upTo(9);
      same("set", () -> lamps.set(setting, value), () -> model.set(setting, value));
    }
  }

  private void writeText() {
    StringBuilder text = new StringBuilder();
    int words = 1 + random.nextInt(random.nextInt(3) == 0 ? 12 : 3);
    for (int i = 0; i < words; i++) {
      text.append(i == 0 ? "" : ",").append(String.format("%03x", random.nextInt(4096)));
    }
    text.append(random.nextBoolean() ? "!" : "");
    if (random.nextInt(3) == 0) {
      text.setCharAt(random.nextInt(text.length()), SIGNS.charAt(random.nextInt(SIGNS.length())));
    }
    if (random.nextInt(20) == 0) {
      text.append("0".repeat(60));
    }
    if (random.nextInt(3) != 0) {
      same("clearBuffer", () -> lamps.clearBuffer(), () -> model.clearBuffer());
    }
    for (int i = 0; i < text.length() && calls < CALLS; i++) {
      int code = random.nextInt(80) == 0 ? upTo(140) : text.charAt(i);
      same("append", () -> lamps.append(code), () -> model.append(code));
    }
    same("firstError", () -> lamps.firstError(), () -> model.firstError());
    same("load", () -> lamps.load(), () -> model.load());
  }

  private void history(int kind) {
    int slot = upTo(2);
    if (kind == 18) {
      same("keep", () -> lamps.keep(slot), () -> model.keep(slot));
    } else if (kind == 19) {
      same("goBack", () -> lamps.goBack(slot), () -> model.goBack(slot));
    } else {
      int times = random.nextInt(5) == 0 ? 7 : 1;
      for (int i = 0; i < times; i++) {
        same("undo", () -> lamps.undo(), () -> model.undo());
      }
    }
  }

  private void look(int kind) {
    int lamp = upTo(8);
    int what = kind == 21 ? upTo(8) : upTo(kind == 22 ? 2 : kind == 23 ? 11 : 120);
    int word = upTo(4096);
    int setting = upTo(3);
    switch (kind) {
      case 21 -> same("lampOf", () -> lamps.lampOf(lamp, what), () -> model.lampOf(lamp, what));
      case 22 -> same("ifGap", () -> lamps.ifGap(lamp, what), () -> model.ifGap(lamp, what));
      case 23 -> same("count", () -> lamps.count(what), () -> model.count(what));
      case 24 -> same("pulseAt", () -> lamps.pulseAt(what), () -> model.pulseAt(what));
      case 25 -> same("setting", () -> lamps.setting(setting), () -> model.setting(setting));
      case 26 -> same("wrong", () -> lamps.wrong(word), () -> model.wrong(word));
      case 27 -> same("bears", () -> lamps.bears(lamp), () -> model.bears(lamp));
      case 28 -> same("wordsTo", () -> lamps.wordsTo(lamp), () -> model.wordsTo(lamp));
      default -> {
        same("brokenAt", () -> lamps.brokenAt(), () -> model.brokenAt());
        same("brightness", () -> Double.doubleToLongBits(lamps.brightness()),
            () -> Double.doubleToLongBits(model.brightness()));
      }
    }
  }
}
