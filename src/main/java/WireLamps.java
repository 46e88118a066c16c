/**
 * Eight lamps on one wire: each takes the first word of the pulses that come to it and hands on the rest.
 */
public final class WireLamps {
  public static final int NONE = -1;

  private static final int LAMPS = 8;
  private static final int COLOURS = 3;
  private static final int WORD_BITS = 12;
  private static final int HIGHEST_WORD = 4095;
  private static final int HIGHEST_LOSS = 6;
  // What eight lamps want whose colours are all at their brightest.
  private static final int FULL_CURRENT = 360;

  private static final int GOOD = 0;
  private static final int DARK = 1;
  private static final int BROKEN = 2;
  private static final int BRIDGED = 3;

  private static final int MAX_PULSES = 120;
  private static final int LONGEST_PULSE = 20;
  private static final int LENGTH_OF_1 = 8;
  private static final int LENGTH_OF_0 = 4;

  private static final int SETTINGS = 3;
  private static final int READ_AS_1 = 0;
  private static final int MADE_ANEW = 1;
  private static final int CURRENT = 2;
  private static final int[] LOWEST_VALUE = {2, 0, 0};
  private static final int[] HIGHEST_VALUE = {12, 1, 360};

  private static final int MAX_TEXT = 60;
  private static final int MAX_TEXT_WORDS = 10;
  private static final int WORD_DIGITS = 3;
  // A word of a text and the sign behind it.
  private static final int WORD_STEP = 4;

  private static final int SLOTS = 2;
  private static final int MAX_SAVED = 6;

  private static final int LAMP_PROPERTIES = 8;
  private static final int NUMBERS = 11;
  private static final int ALTERNATING_FROM_0 = 1365;
  private static final int ALTERNATING_FROM_1 = 2730;

  private static final long HASH_START = 3517L;
  private static final int FRACTION_BITS = 52;
  private static final int EXPONENT_BIAS = 1023;

  private final State state = new State();
  private final Journey journey = new Journey();
  private final Text text = new Text();
  private final History history = new History();
  private final State[] slots = new State[SLOTS];

  public WireLamps() {
  }

  // ---- the row

  public int mode(int lamp, int mode) throws IndexOutOfBoundsException, IllegalArgumentException {
    if (!isLamp(lamp)) {
      throw new IndexOutOfBoundsException("there is no such lamp");
    }
    if (mode < GOOD || mode > BRIDGED) {
      throw new IllegalArgumentException("the mode is out of range");
    }
    history.save(state);
    int before = state.modes[lamp];
    state.modes[lamp] = mode;
    return before;
  }

  public int loss(int lamp, int loss) throws IndexOutOfBoundsException, IllegalArgumentException {
    if (!isLamp(lamp)) {
      throw new IndexOutOfBoundsException("there is no such lamp");
    }
    if (loss < 0 || loss > HIGHEST_LOSS) {
      throw new IllegalArgumentException("the loss is out of range");
    }
    history.save(state);
    int before = state.losses[lamp];
    state.losses[lamp] = loss;
    return before;
  }

  public int set(int setting, int value) throws IndexOutOfBoundsException, IllegalArgumentException {
    if (!isSetting(setting)) {
      throw new IndexOutOfBoundsException("there is no such setting");
    }
    if (value < LOWEST_VALUE[setting] || value > HIGHEST_VALUE[setting]) {
      throw new IllegalArgumentException("the value is out of range");
    }
    history.save(state);
    int before = state.settings[setting];
    state.settings[setting] = value;
    return before;
  }

  // ---- frames

  public int pulse(int length) throws IllegalArgumentException {
    if (length < 1 || length > LONGEST_PULSE) {
      throw new IllegalArgumentException("the length is out of range");
    }
    history.save(state);
    if (!state.hasRoomFor(1)) {
      return refuse();
    }
    state.addPulse(length);
    return state.pulseCount;
  }

  public int send(int word) throws IllegalArgumentException {
    if (!isWord(word)) {
      throw new IllegalArgumentException("the word is out of range");
    }
    history.save(state);
    if (!state.hasRoomFor(WORD_BITS)) {
      return refuse();
    }
    state.addWord(word);
    return state.pulseCount;
  }

  public int gap() {
    history.save(state);
    return letGapBe();
  }

  public int drop() {
    history.save(state);
    int pulses = state.pulseCount;
    state.dropped += pulses;
    state.pulseCount = 0;
    return pulses;
  }

  // ---- texts, snapshots

  public int append(int code) throws IllegalArgumentException, IllegalStateException {
    if (code < 33 || code > 126) {
      throw new IllegalArgumentException("the code is not 33 to 126");
    }
    if (text.length >= MAX_TEXT) {
      throw new IllegalStateException("the buffer is full");
    }
    text.add((char) code);
    return text.length;
  }

  public int clearBuffer() {
    int before = text.length;
    text.empty();
    return before;
  }

  public int firstError() {
    return text.errorPlace();
  }

  public int load() throws IllegalArgumentException {
    int words = text.wordsTold();
    if (words == 0) {
      throw new IllegalArgumentException("the buffer does not tell a frame");
    }
    history.save(state);
    if (!state.hasRoomFor(words * WORD_BITS)) {
      text.empty();
      return refuse();
    }
    for (int i = 0; i < words; i++) {
      state.addWord(text.wordAt(i));
    }
    if (text.endsWithGap()) {
      letGapBe();
    }
    text.empty();
    return words;
  }

  public int keep(int slot) throws IllegalArgumentException {
    if (!isSlot(slot)) {
      throw new IllegalArgumentException("the slot is out of range");
    }
    State snapshot = slots[slot];
    if (snapshot == null) {
      snapshot = new State();
      slots[slot] = snapshot;
    }
    snapshot.copyFrom(state);
    return state.pulseCount;
  }

  public int goBack(int slot) throws IllegalArgumentException, IllegalStateException {
    if (!isSlot(slot)) {
      throw new IllegalArgumentException("the slot is out of range");
    }
    State snapshot = slots[slot];
    if (snapshot == null) {
      throw new IllegalStateException("there is no snapshot in the slot");
    }
    history.save(state);
    state.copyFrom(snapshot);
    return state.pulseCount;
  }

  public int undo() throws IllegalStateException {
    State latest = history.latest();
    if (latest == null) {
      throw new IllegalStateException("there is no saved state");
    }
    state.copyFrom(latest);
    history.forgetLatest();
    return history.size;
  }

  // ---- looks; nothing is changed

  public int lampOf(int lamp, int what) throws IndexOutOfBoundsException, IllegalArgumentException {
    if (!isLamp(lamp)) {
      throw new IndexOutOfBoundsException("there is no such lamp");
    }
    switch (what) {
      case 0:
        return state.modes[lamp];
      case 1:
        return state.losses[lamp];
      case 2:
        return state.known[lamp];
      case 3:
        return state.shining[lamp];
      case 4:
      case 5:
      case 6:
        return state.shown(State.brightnessOf(state.shining[lamp], what - 4), state.currentWanted());
      case 7:
        return state.came[lamp];
      default:
        throw new IllegalArgumentException("what is not 0 to 7");
    }
  }

  public int pulseAt(int place) throws IllegalArgumentException {
    if (place < 0) {
      throw new IllegalArgumentException("the place is below 0");
    }
    if (place >= state.pulseCount || place >= MAX_PULSES) {
      return NONE;
    }
    return state.pulses[place];
  }

  public int count(int what) throws IllegalArgumentException {
    switch (what) {
      case 0:
        return state.pulseCount;
      case 1:
        return state.gaps;
      case 2:
        return state.taken + state.lost + state.dropped + state.pulseCount;
      case 3:
        return state.taken;
      case 4:
        return state.lost;
      case 5:
        return state.dropped;
      case 6:
        return state.currentWanted();
      case 7:
        return state.shownTogether();
      case 8:
        return state.lampsThatShine();
      case 9:
        return state.refused;
      case 10:
        return history.size;
      default:
        throw new IllegalArgumentException("what is not 0 to 10");
    }
  }

  public int setting(int setting) throws IndexOutOfBoundsException {
    if (!isSetting(setting)) {
      throw new IndexOutOfBoundsException("there is no such setting");
    }
    return state.settings[setting];
  }

  // ---- what would be; nothing is changed

  public int ifGap(int lamp, int what) throws IndexOutOfBoundsException, IllegalArgumentException {
    if (!isLamp(lamp)) {
      throw new IndexOutOfBoundsException("there is no such lamp");
    }
    if (what < 0 || what > 1) {
      throw new IllegalArgumentException("what is not 0 or 1");
    }
    if (what == 1) {
      return state.wordByPlace(lamp);
    }
    journey.goThrough(state);
    return journey.words[lamp];
  }

  public int wrong(int word) throws IllegalArgumentException {
    if (!isWord(word)) {
      throw new IllegalArgumentException("the word is out of range");
    }
    return state.wrongWith(word, NONE, 0);
  }

  public int bears(int lamp) throws IndexOutOfBoundsException {
    if (!isLamp(lamp)) {
      throw new IndexOutOfBoundsException("there is no such lamp");
    }
    for (int loss = HIGHEST_LOSS; loss >= 0; loss--) {
      if (state.wrongWith(ALTERNATING_FROM_0, lamp, loss) == 0
          && state.wrongWith(ALTERNATING_FROM_1, lamp, loss) == 0) {
        return loss;
      }
    }
    return NONE;
  }

  public int brokenAt() {
    // Eight words are enough for all lamps, so pulses end nowhere but at a broken lamp.
    for (int lamp = 1; lamp < LAMPS; lamp++) {
      if (state.modes[lamp - 1] == BROKEN) {
        return lamp;
      }
    }
    return NONE;
  }

  public int wordsTo(int lamp) throws IndexOutOfBoundsException {
    if (!isLamp(lamp)) {
      throw new IndexOutOfBoundsException("there is no such lamp");
    }
    return state.wordsUpTo(lamp);
  }

  public double brightness() {
    return (double) state.shownTogether() / (double) FULL_CURRENT;
  }

  public long digest() {
    long hash = HASH_START;
    for (int what = 0; what < NUMBERS; what++) {
      hash = 31L * hash + count(what);
    }
    for (int i = 0; i < SETTINGS; i++) {
      hash = 31L * hash + state.settings[i];
    }
    hash = withLamps(hash);
    for (int i = 0; i < state.pulseCount && i < MAX_PULSES; i++) {
      hash = 31L * hash + state.pulses[i];
    }
    hash = 31L * hash + wrong(ALTERNATING_FROM_0);
    hash = 31L * hash + wrong(HIGHEST_WORD);
    hash = 31L * hash + brokenAt();
    hash = 31L * hash + bitsOf(brightness());
    for (int i = 0; i < SLOTS; i++) {
      hash = 31L * hash + (slots[i] == null ? 0 : 1);
    }
    hash = 31L * hash + text.length;
    for (int i = 0; i < text.length && i < MAX_TEXT; i++) {
      hash = 31L * hash + text.signs[i];
    }
    return hash;
  }

  private long withLamps(long before) {
    long hash = before;
    // One journey tells the words of all lamps.
    journey.goThrough(state);
    for (int lamp = 0; lamp < LAMPS; lamp++) {
      for (int what = 0; what < LAMP_PROPERTIES; what++) {
        hash = 31L * hash + lampOf(lamp, what);
      }
      hash = 31L * hash + journey.words[lamp];
      hash = 31L * hash + state.wordByPlace(lamp);
      hash = 31L * hash + bears(lamp);
      hash = 31L * hash + state.wordsUpTo(lamp);
    }
    return hash;
  }

  /** Counts a refusal and returns what a refused call answers. */
  private int refuse() {
    state.refused++;
    return NONE;
  }

  /** Returns how many lamps know another word then. */
  private int letGapBe() {
    journey.goThrough(state);
    int changed = 0;
    for (int lamp = 0; lamp < LAMPS; lamp++) {
      if (state.known[lamp] != journey.words[lamp]) {
        changed++;
      }
      state.known[lamp] = journey.words[lamp];
      state.came[lamp] = journey.came[lamp];
      state.shining[lamp] = state.modes[lamp] == GOOD ? journey.words[lamp] : 0;
    }
    state.gaps++;
    state.taken += journey.taken;
    state.lost += state.pulseCount - journey.taken;
    state.pulseCount = 0;
    return changed;
  }

  private static boolean isLamp(int lamp) {
    return lamp >= 0 && lamp < LAMPS;
  }

  private static boolean isSetting(int setting) {
    return setting >= 0 && setting < SETTINGS;
  }

  private static boolean isSlot(int slot) {
    return slot >= 0 && slot < SLOTS;
  }

  private static boolean isWord(int word) {
    return word >= 0 && word <= HIGHEST_WORD;
  }

  /** What Double.doubleToLongBits tells of a value from 0 to 1, which the library of this program lacks. */
  private static long bitsOf(double value) {
    if (value <= 0.0) {
      return 0L;
    }
    double scaled = value;
    int exponent = 0;
    while (scaled < 1.0 && exponent > -EXPONENT_BIAS) {
      scaled = scaled * 2.0;
      exponent--;
    }
    // Doubling and taking 1 away are exact, so no bit of the fraction is rounded.
    long fraction = (long) ((scaled - 1.0) * (double) (1L << FRACTION_BITS));
    return ((long) (EXPONENT_BIAS + exponent) << FRACTION_BITS) + fraction;
  }

  /** All that a snapshot holds: the row, the frame, the settings and what is counted. */
  private static final class State {
    final int[] modes = new int[LAMPS];
    final int[] losses = new int[LAMPS];
    final int[] known = new int[LAMPS];
    final int[] shining = new int[LAMPS];
    final int[] came = new int[LAMPS];
    final int[] settings = {6, 1, FULL_CURRENT};
    final int[] pulses = new int[MAX_PULSES];
    int pulseCount;
    int gaps;
    int taken;
    int lost;
    int dropped;
    int refused;

    void copyFrom(State other) {
      System.arraycopy(other.modes, 0, modes, 0, LAMPS);
      System.arraycopy(other.losses, 0, losses, 0, LAMPS);
      System.arraycopy(other.known, 0, known, 0, LAMPS);
      System.arraycopy(other.shining, 0, shining, 0, LAMPS);
      System.arraycopy(other.came, 0, came, 0, LAMPS);
      System.arraycopy(other.settings, 0, settings, 0, SETTINGS);
      System.arraycopy(other.pulses, 0, pulses, 0, MAX_PULSES);
      pulseCount = other.pulseCount;
      gaps = other.gaps;
      taken = other.taken;
      lost = other.lost;
      dropped = other.dropped;
      refused = other.refused;
    }

    boolean hasRoomFor(int more) {
      return pulseCount + more <= MAX_PULSES;
    }

    void addPulse(int length) {
      if (pulseCount >= 0 && pulseCount < MAX_PULSES) {
        pulses[pulseCount] = length;
        pulseCount++;
      }
    }

    void addWord(int word) {
      for (int bit = WORD_BITS - 1; bit >= 0; bit--) {
        addPulse(lengthFor(((word >> bit) & 1) == 1));
      }
    }

    /** Tells if the lamp takes a word when enough pulses come to it. */
    boolean takesWords(int lamp) {
      return modes[lamp] == GOOD || modes[lamp] == DARK;
    }

    boolean isReadAs1(int length) {
      return length >= settings[READ_AS_1];
    }

    /** The length with which a lamp that takes words hands a pulse on. */
    int handedOn(int length) {
      return settings[MADE_ANEW] == 1 ? lengthFor(isReadAs1(length)) : length;
    }

    static int lengthFor(boolean one) {
      return one ? LENGTH_OF_1 : LENGTH_OF_0;
    }

    static int shortened(int length, int loss) {
      return length - loss < 1 ? 1 : length - loss;
    }

    static int brightnessOf(int word, int colour) {
      return (word >> (8 - 4 * colour)) & 15;
    }

    int currentWanted() {
      int sum = 0;
      for (int lamp = 0; lamp < LAMPS; lamp++) {
        for (int colour = 0; colour < COLOURS; colour++) {
          sum += brightnessOf(shining[lamp], colour);
        }
      }
      return sum;
    }

    int shown(int brightness, int wanted) {
      if (wanted <= 0 || wanted <= settings[CURRENT]) {
        return brightness;
      }
      return brightness * settings[CURRENT] / wanted;
    }

    int shownTogether() {
      int wanted = currentWanted();
      int sum = 0;
      for (int lamp = 0; lamp < LAMPS; lamp++) {
        for (int colour = 0; colour < COLOURS; colour++) {
          sum += shown(brightnessOf(shining[lamp], colour), wanted);
        }
      }
      return sum;
    }

    int lampsThatShine() {
      int lamps = 0;
      for (int lamp = 0; lamp < LAMPS; lamp++) {
        if (shining[lamp] != 0) {
          lamps++;
        }
      }
      return lamps;
    }

    /** The fewest words with which the lamp takes one; NONE if it takes none. */
    int wordsUpTo(int lamp) {
      if (!takesWords(lamp)) {
        return NONE;
      }
      int words = 1;
      for (int ahead = 0; ahead < lamp; ahead++) {
        if (modes[ahead] == BROKEN) {
          return NONE;
        }
        if (takesWords(ahead)) {
          words++;
        }
      }
      return words;
    }

    /** The word that the lamp would know behind a gap, without a look at what the other lamps take. */
    int wordByPlace(int lamp) {
      int words = wordsUpTo(lamp);
      int end = words * WORD_BITS;
      if (words == NONE || end > pulseCount || end > MAX_PULSES) {
        return known[lamp];
      }
      int word = 0;
      for (int place = end - WORD_BITS; place >= 0 && place < end; place++) {
        word = 2 * word + (isReadAs1(lengthAt(lamp, pulses[place])) ? 1 : 0);
      }
      return word;
    }

    /** The length with which a pulse of the frame comes to the lamp, if it is handed on up to there. */
    int lengthAt(int lamp, int lengthSent) {
      int length = lengthSent;
      for (int ahead = 0; ahead < lamp; ahead++) {
        length = shortened(length, losses[ahead]);
        if (takesWords(ahead)) {
          length = handedOn(length);
        }
      }
      return shortened(length, losses[lamp]);
    }

    /**
     * The lamps, as a mask, that would shine wrong behind eight words of the same kind, if the wire ahead of
     * wireLamp (NONE: no wire) had another loss. All pulses sent as 1 fare alike on their way, and so do
     * those sent as 0: it is enough to follow one of each.
     */
    int wrongWith(int word, int wireLamp, int otherLoss) {
      int one = LENGTH_OF_1;
      int zero = LENGTH_OF_0;
      boolean pulsesCome = true;
      int mask = 0;
      for (int lamp = 0; lamp < LAMPS; lamp++) {
        int loss = lamp == wireLamp ? otherLoss : losses[lamp];
        one = shortened(one, loss);
        zero = shortened(zero, loss);
        int knows = known[lamp];
        if (takesWords(lamp) && pulsesCome) {
          knows = (isReadAs1(one) ? word : 0) | (isReadAs1(zero) ? HIGHEST_WORD - word : 0);
          one = handedOn(one);
          zero = handedOn(zero);
        }
        if (word != (modes[lamp] == GOOD ? knows : 0)) {
          mask = mask | (1 << lamp);
        }
        if (modes[lamp] == BROKEN) {
          pulsesCome = false;
        }
      }
      return mask;
    }
  }

  /** The way of the pulses of a frame through the row at a gap, told lamp by lamp; it changes no state. */
  private static final class Journey {
    final int[] came = new int[LAMPS];
    final int[] words = new int[LAMPS];
    int taken;
    private final int[] pulses = new int[MAX_PULSES];
    // The pulses that are still on their way stand from first on, up to ahead of end.
    private int first;
    private int end;

    void goThrough(State state) {
      System.arraycopy(state.pulses, 0, pulses, 0, MAX_PULSES);
      first = 0;
      end = state.pulseCount < MAX_PULSES ? state.pulseCount : MAX_PULSES;
      taken = 0;
      for (int lamp = 0; lamp < LAMPS; lamp++) {
        passWire(state.losses[lamp]);
        came[lamp] = end - first;
        words[lamp] = state.known[lamp];
        if (state.takesWords(lamp)) {
          passTaker(state, lamp);
        } else if (state.modes[lamp] == BROKEN) {
          first = end;
        }
      }
    }

    private void passWire(int loss) {
      for (int i = first; i >= 0 && i < end && i < MAX_PULSES; i++) {
        pulses[i] = State.shortened(pulses[i], loss);
      }
    }

    private void passTaker(State state, int lamp) {
      if (end - first < WORD_BITS) {
        first = end;
        return;
      }
      words[lamp] = takeWord(state);
      for (int i = first; i >= 0 && i < end && i < MAX_PULSES; i++) {
        pulses[i] = state.handedOn(pulses[i]);
      }
    }

    private int takeWord(State state) {
      int word = 0;
      int behind = first + WORD_BITS;
      for (int i = first; i >= 0 && i < behind && i < MAX_PULSES; i++) {
        word = 2 * word + (state.isReadAs1(pulses[i]) ? 1 : 0);
      }
      first = behind;
      taken += WORD_BITS;
      return word;
    }
  }

  /** The buffer, and what it tells as a text. */
  private static final class Text {
    final char[] signs = new char[MAX_TEXT];
    int length;

    void add(char sign) {
      if (length >= 0 && length < MAX_TEXT) {
        signs[length] = sign;
        length++;
      }
    }

    void empty() {
      length = 0;
    }

    /** The place of the first syntax error; the length if there is none. */
    int errorPlace() {
      for (int place = 0; place < length; place++) {
        if (!fits(place)) {
          return place;
        }
      }
      return length;
    }

    /** Tells if the sign fits behind the signs before it, all of which fit. */
    private boolean fits(int place) {
      int word = place / WORD_STEP;
      if (word >= MAX_TEXT_WORDS || signAt(place - 1) == '!') {
        return false;
      }
      char sign = signAt(place);
      if (place % WORD_STEP < WORD_DIGITS) {
        return digitOf(sign) != NONE;
      }
      return sign == '!' || (sign == ',' && word < MAX_TEXT_WORDS - 1);
    }

    /** How many words the text tells; 0 if it does not tell a frame. */
    int wordsTold() {
      int signsOfWords = endsWithGap() ? length - 1 : length;
      if (errorPlace() < length || signsOfWords % WORD_STEP != WORD_DIGITS) {
        return 0;
      }
      return (signsOfWords + 1) / WORD_STEP;
    }

    boolean endsWithGap() {
      return signAt(length - 1) == '!';
    }

    int wordAt(int index) {
      int word = 0;
      for (int i = 0; i < WORD_DIGITS; i++) {
        word = 16 * word + digitOf(signAt(index * WORD_STEP + i));
      }
      return word;
    }

    /** The sign at a place; a blank, which no text holds, where there is none. */
    private char signAt(int place) {
      return place >= 0 && place < length && place < MAX_TEXT ? signs[place] : ' ';
    }

    private static int digitOf(char sign) {
      if (sign >= '0' && sign <= '9') {
        return sign - '0';
      }
      return sign >= 'a' && sign <= 'f' ? sign - 'a' + 10 : NONE;
    }
  }

  /** The saved states, the oldest one first. */
  private static final class History {
    private final State[] states = new State[MAX_SAVED];
    int size;

    void save(State state) {
      if (size >= MAX_SAVED) {
        dropOldest();
      }
      if (size < 0 || size >= MAX_SAVED) {
        return;
      }
      State place = states[size];
      if (place == null) {
        place = new State();
        states[size] = place;
      }
      place.copyFrom(state);
      size++;
    }

    private void dropOldest() {
      // The object of the oldest state is used again for the newest, as no run gives its room back.
      State oldest = states[0];
      for (int i = 1; i < MAX_SAVED; i++) {
        states[i - 1] = states[i];
      }
      states[MAX_SAVED - 1] = oldest;
      size = MAX_SAVED - 1;
    }

    /** The latest saved state; null if there is none. */
    State latest() {
      return size > 0 && size <= MAX_SAVED ? states[size - 1] : null;
    }

    void forgetLatest() {
      if (size > 0) {
        size--;
      }
    }
  }
}
