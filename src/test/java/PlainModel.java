import java.util.ArrayList;
import java.util.Arrays;
import java.util.List;
import java.util.regex.Matcher;
import java.util.regex.Pattern;

/**
 * The document once more, in the plainest words: whatever would be is done on a copy and looked at.
 * It shares no thought with WireLamps about how to tell an answer faster.
 */
final class PlainModel {
  private static final Pattern FRAME = Pattern.compile("[0-9a-f]{3}(,[0-9a-f]{3}){0,9}!?");

  private static final class All {
    int[] mode = new int[8];
    int[] loss = new int[8];
    int[] knows = new int[8];
    int[] shines = new int[8];
    int[] came = new int[8];
    boolean[] took = new boolean[8];
    int[] settings = {6, 1, 360};
    List<Integer> frame = new ArrayList<>();
    int gaps;
    int sent;
    int taken;
    int lost;
    int dropped;
    int refused;

    All copy() {
      All c = new All();
      c.mode = mode.clone();
      c.loss = loss.clone();
      c.knows = knows.clone();
      c.shines = shines.clone();
      c.came = came.clone();
      c.took = took.clone();
      c.settings = settings.clone();
      c.frame = new ArrayList<>(frame);
      c.gaps = gaps;
      c.sent = sent;
      c.taken = taken;
      c.lost = lost;
      c.dropped = dropped;
      c.refused = refused;
      return c;
    }
  }

  private All all = new All();
  private final List<All> saved = new ArrayList<>();
  private final All[] slots = new All[2];
  private String buffer = "";

  private void save() {
    saved.add(all.copy());
    if (saved.size() > 6) {
      saved.remove(0);
    }
  }

  private static void lampExists(int lamp) {
    if (lamp < 0 || lamp > 7) {
      throw new IndexOutOfBoundsException();
    }
  }

  private static void argument(boolean fine) {
    if (!fine) {
      throw new IllegalArgumentException();
    }
  }

  int mode(int lamp, int mode) {
    lampExists(lamp);
    argument(mode >= 0 && mode <= 3);
    save();
    int was = all.mode[lamp];
    all.mode[lamp] = mode;
    return was;
  }

  int loss(int lamp, int loss) {
    lampExists(lamp);
    argument(loss >= 0 && loss <= 6);
    save();
    int was = all.loss[lamp];
    all.loss[lamp] = loss;
    return was;
  }

  int set(int setting, int value) {
    setting(setting);
    argument(setting != 0 || value >= 2 && value <= 12);
    argument(setting != 1 || value == 0 || value == 1);
    argument(setting != 2 || value >= 0 && value <= 360);
    save();
    int was = all.settings[setting];
    all.settings[setting] = value;
    return was;
  }

  int pulse(int length) {
    argument(length >= 1 && length <= 20);
    save();
    if (all.frame.size() == 120) {
      all.refused++;
      return -1;
    }
    all.frame.add(length);
    all.sent++;
    return all.frame.size();
  }

  private static void sendTo(All to, int word) {
    String bits = Integer.toBinaryString(4096 + word).substring(1);
    for (char bit : bits.toCharArray()) {
      to.frame.add(bit == '1' ? 8 : 4);
      to.sent++;
    }
  }

  int send(int word) {
    argument(word >= 0 && word <= 4095);
    save();
    if (all.frame.size() > 108) {
      all.refused++;
      return -1;
    }
    sendTo(all, word);
    return all.frame.size();
  }

  private static int gapIn(All in) {
    int[] knewBefore = in.knows.clone();
    List<Integer> wire = in.frame;
    int all = wire.size();
    int taken = 0;
    for (int lamp = 0; lamp < 8; lamp++) {
      List<Integer> come = new ArrayList<>();
      for (int length : wire) {
        come.add(Math.max(1, length - in.loss[lamp]));
      }
      in.came[lamp] = come.size();
      in.took[lamp] = false;
      List<Integer> on = new ArrayList<>();
      if (in.mode[lamp] == 3) {
        on = come;
      } else if (in.mode[lamp] != 2 && come.size() >= 12) {
        StringBuilder bits = new StringBuilder();
        for (int length : come.subList(0, 12)) {
          bits.append(length >= in.settings[0] ? '1' : '0');
        }
        in.knows[lamp] = Integer.parseInt(bits.toString(), 2);
        in.took[lamp] = true;
        taken += 12;
        for (int length : come.subList(12, come.size())) {
          on.add(in.settings[1] == 0 ? length : length >= in.settings[0] ? 8 : 4);
        }
      }
      wire = on;
    }
    int changed = 0;
    for (int lamp = 0; lamp < 8; lamp++) {
      in.shines[lamp] = in.mode[lamp] == 0 ? in.knows[lamp] : 0;
      changed += in.knows[lamp] != knewBefore[lamp] ? 1 : 0;
    }
    in.gaps++;
    in.taken += taken;
    in.lost += all - taken;
    in.frame = new ArrayList<>();
    return changed;
  }

  int gap() {
    save();
    return gapIn(all);
  }

  int drop() {
    save();
    int pulses = all.frame.size();
    all.dropped += pulses;
    all.frame.clear();
    return pulses;
  }

  int append(int code) {
    argument(code >= 33 && code <= 126);
    if (buffer.length() == 60) {
      throw new IllegalStateException();
    }
    buffer += (char) code;
    return buffer.length();
  }

  int clearBuffer() {
    int was = buffer.length();
    buffer = "";
    return was;
  }

  int firstError() {
    for (int end = 1; end <= buffer.length(); end++) {
      Matcher matcher = FRAME.matcher(buffer.substring(0, end));
      if (!matcher.matches() && !matcher.hitEnd()) {
        return end - 1;
      }
    }
    return buffer.length();
  }

  int load() {
    argument(FRAME.matcher(buffer).matches());
    save();
    String[] words = buffer.replace("!", "").split(",");
    boolean gap = buffer.contains("!");
    buffer = "";
    if (all.frame.size() + 12 * words.length > 120) {
      all.refused++;
      return -1;
    }
    for (String word : words) {
      sendTo(all, Integer.parseInt(word, 16));
    }
    if (gap) {
      gapIn(all);
    }
    return words.length;
  }

  int keep(int slot) {
    argument(slot == 0 || slot == 1);
    slots[slot] = all.copy();
    return all.frame.size();
  }

  int goBack(int slot) {
    argument(slot == 0 || slot == 1);
    if (slots[slot] == null) {
      throw new IllegalStateException();
    }
    save();
    all = slots[slot].copy();
    return all.frame.size();
  }

  int undo() {
    if (saved.isEmpty()) {
      throw new IllegalStateException();
    }
    all = saved.remove(saved.size() - 1);
    return saved.size();
  }

  private static int colour(int word, int colour) {
    int[] colours = {word / 256, word / 16 % 16, word % 16};
    return colours[colour];
  }

  private int wanted() {
    int sum = 0;
    for (int word : all.shines) {
      sum += colour(word, 0) + colour(word, 1) + colour(word, 2);
    }
    return sum;
  }

  private int shown(int lamp, int colour) {
    int bright = colour(all.shines[lamp], colour);
    return wanted() > all.settings[2] ? bright * all.settings[2] / wanted() : bright;
  }

  int lampOf(int lamp, int what) {
    lampExists(lamp);
    argument(what >= 0 && what <= 7);
    int[] values = {all.mode[lamp], all.loss[lamp], all.knows[lamp], all.shines[lamp], shown(lamp, 0),
        shown(lamp, 1), shown(lamp, 2), all.came[lamp]};
    return values[what];
  }

  int pulseAt(int place) {
    argument(place >= 0);
    return place < all.frame.size() ? all.frame.get(place) : -1;
  }

  int count(int what) {
    argument(what >= 0 && what <= 10);
    int together = 0;
    for (int i = 0; i < 24; i++) {
      together += shown(i / 3, i % 3);
    }
    int shining = (int) Arrays.stream(all.shines).filter(word -> word != 0).count();
    int[] values = {all.frame.size(), all.gaps, all.sent, all.taken, all.lost, all.dropped, wanted(), together,
        shining, all.refused, saved.size()};
    return values[what];
  }

  int setting(int setting) {
    if (setting < 0 || setting > 2) {
      throw new IndexOutOfBoundsException();
    }
    return all.settings[setting];
  }

  int ifGap(int lamp, int what) {
    lampExists(lamp);
    argument(what == 0 || what == 1);
    All copy = all.copy();
    gapIn(copy);
    return copy.knows[lamp];
  }

  private static All afterWords(All from, int word, int words) {
    All copy = from.copy();
    copy.frame.clear();
    for (int i = 0; i < words; i++) {
      sendTo(copy, word);
    }
    gapIn(copy);
    return copy;
  }

  private static int wrongIn(All in, int word) {
    All then = afterWords(in, word, 8);
    int mask = 0;
    for (int lamp = 0; lamp < 8; lamp++) {
      mask += then.shines[lamp] != word ? 1 << lamp : 0;
    }
    return mask;
  }

  int wrong(int word) {
    argument(word >= 0 && word <= 4095);
    return wrongIn(all, word);
  }

  int bears(int lamp) {
    lampExists(lamp);
    int greatest = -1;
    for (int loss = 0; loss <= 6; loss++) {
      All copy = all.copy();
      copy.loss[lamp] = loss;
      if (wrongIn(copy, 1365) == 0 && wrongIn(copy, 2730) == 0) {
        greatest = loss;
      }
    }
    return greatest;
  }

  int brokenAt() {
    All then = afterWords(all, 0, 8);
    for (int lamp = 0; lamp < 8; lamp++) {
      if (then.came[lamp] == 0) {
        return lamp;
      }
    }
    return -1;
  }

  int wordsTo(int lamp) {
    lampExists(lamp);
    for (int words = 1; words <= 20; words++) {
      if (afterWords(all, 0, words).took[lamp]) {
        return words;
      }
    }
    return -1;
  }

  double brightness() {
    return (double) count(7) / 360;
  }

  long digest() {
    List<Long> values = new ArrayList<>();
    for (int what = 0; what <= 10; what++) {
      values.add((long) count(what));
    }
    for (int setting : all.settings) {
      values.add((long) setting);
    }
    for (int lamp = 0; lamp < 8; lamp++) {
      for (int what = 0; what <= 7; what++) {
        values.add((long) lampOf(lamp, what));
      }
      values.add((long) ifGap(lamp, 0));
      values.add((long) ifGap(lamp, 1));
      values.add((long) bears(lamp));
      values.add((long) wordsTo(lamp));
    }
    for (int length : all.frame) {
      values.add((long) length);
    }
    values.add((long) wrong(1365));
    values.add((long) wrong(4095));
    values.add((long) brokenAt());
    values.add(Double.doubleToLongBits(brightness()));
    values.add(slots[0] != null ? 1L : 0L);
    values.add(slots[1] != null ? 1L : 0L);
    values.add((long) buffer.length());
    for (char c : buffer.toCharArray()) {
      values.add((long) c);
    }
    long hash = 3517;
    for (long v : values) {
      hash = 31 * hash + v;
    }
    return hash;
  }
}
