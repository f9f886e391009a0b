import java.util.Arrays;

/**
 * A maze in which all walkers hear the same word at once, and each does it where he stands.
 * The document's numbered promises say what each public method answers.
 */
public final class HornMaze {
  public static final int NONE = -1;

  private static final int NO_NUMBER = -1;
  private static final int NOT_THERE = -2;
  private static final int BY_WHAT_STANDS = -3;
  private static final int NO_ROOM = -5;
  private static final int BAD_TEXT = -6;

  private static final int MOST_PLACES = 12;
  private static final int MOST_WORDS = 8;
  private static final int MOST_LAWS = 6;
  private static final int MOST_CALLED = 60;
  private static final int MOST_WALKERS = 12;
  private static final int MOST_DRAWN = 200;
  private static final int MOST_TRACED = 15;
  private static final int MOST_SEEN = 1073741823;
  private static final int MOST_SEED = 1000000;
  private static final int MOST_BYTES = 400;
  private static final int COLOURS = 4;
  private static final int DOOR_BITS = 8;
  private static final int ALL_SETS = 4096;
  private static final int ALL_STANDS = 32768;
  private static final int IMAGES = 2;
  // Behind one lap the doors stay as they are, and the order of a map of 12 places is 60 at most.
  private static final int MOST_LAPS = 128;

  private final Maze maze = new Maze();
  private final Tape tape = new Tape();
  private final LawReader reader = new LawReader();
  private final Moves moves = new Moves(maze);
  private final Search search = new Search(moves);
  private final Levels pairs = new Levels(moves);
  private final Levels sights = new Levels(moves);
  private final Horn latestHorn = new Horn();
  private final Maze[] images = {new Maze(), new Maze()};
  private final boolean[] imageKept = new boolean[IMAGES];
  private final int[] refusals = new int[7];
  private final int[] laps = new int[MOST_LAPS];
  private int latestStatus = 0;
  private int latestFault = NONE;
  private int latestStray = 0;

  public HornMaze() {
  }

  // ---- the maze: promises 2 to 7

  public int place(int colour) {
    if (!isColour(colour)) {
      return refuse(NO_NUMBER);
    }
    if (maze.places >= MOST_PLACES) {
      return refuse(NO_ROOM);
    }
    moves.forget();
    maze.colours[maze.places] = colour;
    maze.places++;
    return grant(maze.places - 1);
  }

  public int paint(int place, int colour) {
    if (!isColour(colour)) {
      return refuse(NO_NUMBER);
    }
    if (!maze.hasPlace(place)) {
      return refuse(NOT_THERE);
    }
    int was = maze.colours[place];
    moves.forget();
    maze.colours[place] = colour;
    return grant(was);
  }

  public int word(int opens, int shuts) {
    if (!isDoors(opens) || !isDoors(shuts)) {
      return refuse(NO_NUMBER);
    }
    if (maze.words >= MOST_WORDS) {
      return refuse(NO_ROOM);
    }
    moves.forget();
    maze.addWord(opens, shuts);
    return grant(maze.words - 1);
  }

  public int lead(int word, int place, int to) {
    if (!maze.hasWord(word) || !maze.hasPlace(place) || !maze.hasPlace(to)) {
      return refuse(NOT_THERE);
    }
    int at = word * MOST_PLACES + place;
    int was = maze.leads[at];
    moves.forget();
    maze.leads[at] = to;
    return grant(was);
  }

  public int hear(int kind, int word, int as) {
    if (!isKind(kind)) {
      return refuse(NO_NUMBER);
    }
    if (!maze.hasWord(word) || (as != NONE && !maze.hasWord(as))) {
      return refuse(NOT_THERE);
    }
    int at = kind * MOST_WORDS + word;
    int was = maze.hears[at];
    moves.forget();
    maze.hears[at] = as;
    return grant(was);
  }

  public int doors(int open) {
    if (!isDoors(open)) {
      return refuse(NO_NUMBER);
    }
    int was = maze.doors;
    maze.doors = open;
    return grant(was);
  }

  // ---- the tape, rows of leads, laws: promises 8 to 16

  public int feed(int a, int b, int c, int d, int e) {
    if (!tape.hasRoomFor(20)) {
      return NONE;
    }
    tape.addFour(a);
    tape.addFour(b);
    tape.addFour(c);
    tape.addFour(d);
    tape.addFour(e);
    return tape.size;
  }

  public int end(int n) {
    if (n < 0 || n > tape.size) {
      return NONE;
    }
    tape.size = n;
    return n;
  }

  public int row(int word) {
    if (!maze.hasWord(word)) {
      return refuse(NOT_THERE);
    }
    if (tape.size == 0) {
      return refuse(BAD_TEXT);
    }
    moves.forget();
    int came = 0;
    for (int i = 0; i < tape.size && i < maze.places; i++) {
      if (maze.hasPlace(tape.bytes[i])) {
        maze.leads[word * MOST_PLACES + i] = tape.bytes[i];
        came++;
      }
    }
    latestStray = tape.size - came;
    tape.size = 0;
    return grant(came);
  }

  public int stray() {
    return latestStray;
  }

  public int law() {
    if (maze.lawCount >= MOST_LAWS) {
      tape.size = 0;
      return refuse(NO_ROOM);
    }
    Law made = reader.read(tape.bytes, tape.size);
    tape.size = 0;
    if (made == null) {
      latestFault = reader.tokens.start();
      return refuse(BAD_TEXT);
    }
    latestFault = NONE;
    maze.laws[maze.lawCount] = made;
    maze.lawCount++;
    return grant(maze.lawCount - 1);
  }

  public int fault() {
    return latestFault;
  }

  public int force(int law) {
    if (law < NONE || law >= maze.lawCount) {
      return refuse(NOT_THERE);
    }
    int was = maze.inForce;
    moves.forget();
    maze.inForce = law;
    return grant(was);
  }

  public int goes(int kind, int word, int place, int doors) {
    if (!isKind(kind) || !maze.hasWord(word) || !maze.hasPlace(place) || !isDoors(doors)) {
      return NONE;
    }
    return moves.step(kind, word, place, doors);
  }

  public int barred(int word, int doors) {
    if (!maze.hasWord(word) || !isDoors(doors)) {
      return NONE;
    }
    return moves.forbids(word, doors) ? 1 : 0;
  }

  // ---- the row of words: promises 17 to 20, 26 and 27

  public int call(int word) {
    if (!maze.hasWord(word)) {
      return refuse(NOT_THERE);
    }
    if (maze.calledCount >= MOST_CALLED) {
      return refuse(NO_ROOM);
    }
    maze.called[maze.calledCount] = word;
    maze.calledCount++;
    return grant(maze.calledCount);
  }

  public int tear() {
    int had = maze.calledCount;
    maze.calledCount = 0;
    return had;
  }

  public int after(int mix, int set, int n) {
    if (!isSetOf(mix, set)) {
      return NONE;
    }
    int stand = standAfter(mix, standOf(set), n);
    return stand == NONE ? NONE : stand / DOOR_BITS;
  }

  public int open(int n) {
    int stand = standAfter(1, standOf(0), n);
    return stand == NONE ? NONE : stand % DOOR_BITS;
  }

  public int cycle(int mix, int set, int what) {
    if (!isSetOf(mix, set) || (what != 0 && what != 1) || maze.calledCount == 0) {
      return NONE;
    }
    laps[0] = standOf(set);
    for (int lap = 1; lap < MOST_LAPS; lap++) {
      int stand = standAfter(mix, laps[lap - 1], maze.calledCount);
      if (stand == NONE) {
        return NONE;
      }
      int first = firstLapWith(stand, lap);
      if (first != NONE) {
        return what == 0 ? first : lap - first;
      }
      laps[lap] = stand;
    }
    return NONE;
  }

  public int trace(int set, int n, int seen) {
    if (!isSetOf(1, set) || n < 0 || n > MOST_TRACED || n > maze.calledCount
        || seen < 0 || seen > MOST_SEEN) {
      return NONE;
    }
    int stand = standOf(set);
    for (int i = 0; i < n; i++) {
      stand = hearAt(1, stand, maze.called[i]);
      if (stand == NONE) {
        return NONE;
      }
      int colour = (seen >> (2 * i)) & 3;
      stand = (stand / DOOR_BITS & maze.placesOf(colour)) * DOOR_BITS + stand % DOOR_BITS;
    }
    return stand / DOOR_BITS;
  }

  // ---- the fewest words: promises 21 to 25 and 28

  public int fewest(int mix, int set, int to) {
    if (!isSetOf(mix, set) || !isAim(to)) {
      return NONE;
    }
    findFewest(mix, set, to, NONE);
    return search.fewest;
  }

  public int ways(int mix, int set, int to) {
    if (!isSetOf(mix, set) || !isAim(to)) {
      return NONE;
    }
    findFewest(mix, set, to, NONE);
    return search.ways;
  }

  public int spell(int mix, int set, int to, int i) {
    if (!isSetOf(mix, set) || !isAim(to)) {
      return NONE;
    }
    findFewest(mix, set, to, NONE);
    return search.wordOfFirst(i);
  }

  public int without(int mix, int set, int word) {
    if (!isSetOf(mix, set) || !maze.hasWord(word)) {
      return NONE;
    }
    findFewest(mix, set, NONE, word);
    return search.fewest;
  }

  public int spare(int mix, int set) {
    if (!isSetOf(mix, set)) {
      return NONE;
    }
    findFewest(mix, set, NONE, NONE);
    int least = search.fewest;
    int needed = search.wordsOfFirst();
    for (int word = 0; word < maze.words && least != NONE; word++) {
      // A word that the first row does not use can be left out without a further search.
      if ((needed >> word & 1) == 0) {
        return word;
      }
      findFewest(mix, set, NONE, word);
      if (search.fewest == least) {
        return word;
      }
    }
    return NONE;
  }

  public int stands(int mix, int set) {
    if (!isSetOf(mix, set)) {
      return NONE;
    }
    findFewest(mix, set, Search.NOWHERE, NONE);
    return search.size;
  }

  // ---- pairs and sights: promises 29 to 35

  public int pair(int kind, int one, int other) {
    if (!isKind(kind) || !maze.hasPlace(one) || !maze.hasPlace(other)) {
      return NONE;
    }
    findPairs(kind);
    return pairs.levelOf((1 << one) | (1 << other), maze.doors);
  }

  public int which(int kind, int one, int other) {
    if (!isKind(kind) || !maze.hasPlace(one) || !maze.hasPlace(other)) {
      return NONE;
    }
    findPairs(kind);
    return pairs.firstWord((1 << one) | (1 << other), maze.doors);
  }

  public int farthest(int kind) {
    if (!isKind(kind)) {
      return NONE;
    }
    findPairs(kind);
    int most = 0;
    for (int one = 0; one < maze.places; one++) {
      for (int other = one + 1; other < maze.places; other++) {
        int level = pairs.levelOf((1 << one) | (1 << other), maze.doors);
        if (level == NONE) {
          return NONE;
        }
        most = Math.max(most, level);
      }
    }
    return most;
  }

  public int bar(int kind) {
    if (!isKind(kind)) {
      return NONE;
    }
    findPairs(kind);
    for (int one = 0; one < maze.places; one++) {
      for (int other = one + 1; other < maze.places; other++) {
        if (pairs.levelOf((1 << one) | (1 << other), maze.doors) == NONE) {
          return MOST_PLACES * one + other;
        }
      }
    }
    return NONE;
  }

  public int plod(int kind, int set) {
    if (!isKind(kind) || !isSetOf(1, set) || set == 0) {
      return NONE;
    }
    findPairs(kind);
    int stand = standOf(set);
    int total = 0;
    for (int i = 0; i < MOST_PLACES && Integer.bitCount(stand / DOOR_BITS) > 1; i++) {
      int two = soonestPair(stand);
      if (two == NONE) {
        return NONE;
      }
      total += pairs.levelOf(two, stand % DOOR_BITS);
      stand = bringTogether(kind, two, stand);
    }
    return total;
  }

  public int sight(int set) {
    if (!isSetOf(1, set) || set == 0) {
      return NONE;
    }
    findSights(set);
    return sights.levelOf(set, maze.doors);
  }

  public int ask(int set) {
    if (!isSetOf(1, set) || set == 0) {
      return NONE;
    }
    findSights(set);
    return sights.firstWord(set, maze.doors);
  }

  // ---- the store: promises 36 to 43

  public int hold(int set) {
    if (!isStoreSet(set)) {
      return refuse(NO_NUMBER);
    }
    if (maze.store.isFull()) {
      return refuse(NO_ROOM);
    }
    return grant(maze.store.put(set));
  }

  public int drop(int set) {
    if (!isStoreSet(set)) {
      return refuse(NO_NUMBER);
    }
    if (maze.store.timesOf(set) == 0) {
      return refuse(BY_WHAT_STANDS);
    }
    return grant(maze.store.take(set));
  }

  public int held(int set) {
    return isStoreSet(set) ? maze.store.timesOf(set) : NONE;
  }

  public int kth(int i) {
    if (i == NONE) {
      return maze.store.size;
    }
    return i < 0 || i >= maze.store.size ? NONE : maze.store.sets[i];
  }

  public int rank(int set) {
    return isStoreSet(set) ? maze.store.lowerThan(set) : NONE;
  }

  public int about(int set, int what) {
    if (!isStoreSet(set)) {
      return NONE;
    }
    switch (what) {
      case 0:
        return maze.store.within(set);
      case 1:
        return maze.store.having(set);
      case 2:
        return maze.store.lowestHaving(set);
      default:
        return NONE;
    }
  }

  public int near(int set, int what) {
    if (!isStoreSet(set) || (what != 0 && what != 1)) {
      return NONE;
    }
    int nearest = maze.store.nearest(set);
    return nearest == NONE || what == 0 ? nearest : Integer.bitCount(nearest ^ set);
  }

  public int between(int one, int other) {
    if (!isStoreSet(one) || !isStoreSet(other) || other < one) {
      return NONE;
    }
    return maze.store.lowerThan(other + 1) - maze.store.lowerThan(one);
  }

  // ---- walkers and the horn: promises 44 to 48

  public int walker(int place, int kind) {
    if (!isKind(kind)) {
      return refuse(NO_NUMBER);
    }
    if (!maze.hasPlace(place)) {
      return refuse(NOT_THERE);
    }
    if (maze.walkers >= MOST_WALKERS) {
      return refuse(NO_ROOM);
    }
    maze.walkerAt[maze.walkers] = place;
    maze.walkerKind[maze.walkers] = kind;
    maze.walkers++;
    return grant(maze.walkers - 1);
  }

  public int where(int walker) {
    return maze.hasWalker(walker) ? maze.walkerAt[walker] : NONE;
  }

  public int say(int word) {
    if (!maze.hasWord(word)) {
      return refuse(NOT_THERE);
    }
    if (moves.forbids(word, maze.doors)) {
      return refuse(BY_WHAT_STANDS);
    }
    int taken = 0;
    for (int i = 0; i < maze.walkers; i++) {
      maze.walkerAt[i] = moves.step(maze.walkerKind[i], word, maze.walkerAt[i], maze.doors);
      taken |= 1 << maze.walkerAt[i];
    }
    maze.doors = maze.doorsBehind(word, maze.doors);
    return grant(Integer.bitCount(taken));
  }

  public int horn(int seed, int n) {
    if (seed < 0 || seed > MOST_SEED || n < 0 || n > MOST_DRAWN) {
      return refuse(NO_NUMBER);
    }
    latestHorn.begin(maze, seed);
    int said = 0;
    for (int i = 0; i < n; i++) {
      int word = latestHorn.draw(moves.allowedWords(latestHorn.doors));
      if (word == NONE) {
        break;
      }
      hearOnPaper(word);
      said++;
    }
    return grant(said);
  }

  public int drawn(int walker) {
    if (!latestHorn.isMade) {
      return NONE;
    }
    if (walker == NONE) {
      return latestHorn.doors;
    }
    return walker < 0 || walker >= latestHorn.walkers ? NONE : latestHorn.at[walker];
  }

  // ---- images and counts: promises 49 to 52

  public int image(int k) {
    if (k < 0 || k >= IMAGES) {
      return refuse(NO_NUMBER);
    }
    images[k].copyFrom(maze);
    imageKept[k] = true;
    return grant(0);
  }

  public int back(int k) {
    if (k < 0 || k >= IMAGES) {
      return refuse(NO_NUMBER);
    }
    if (!imageKept[k]) {
      return refuse(NOT_THERE);
    }
    moves.forget();
    maze.copyFrom(images[k]);
    return grant(0);
  }

  public int count(int what) {
    switch (what) {
      case 0:
        return maze.places;
      case 1:
        return maze.words;
      case 2:
        return maze.lawCount;
      case 3:
        return maze.calledCount;
      case 4:
        return maze.store.total;
      case 5:
        return maze.walkers;
      case 6:
        return tape.size;
      case 7:
        return refusals[-NO_NUMBER];
      case 8:
        return refusals[-NOT_THERE];
      case 9:
        return refusals[-BY_WHAT_STANDS];
      case 10:
        return refusals[-NO_ROOM];
      case 11:
        return refusals[-BAD_TEXT];
      case 12:
        return maze.inForce;
      case 13:
        return maze.doors;
      default:
        return NONE;
    }
  }

  public int status() {
    return latestStatus;
  }

  // ---- what the public methods share

  private int refuse(int why) {
    latestStatus = why;
    int at = -why;
    if (at >= 0 && at < refusals.length) {
      refusals[at]++;
    }
    return why;
  }

  private int grant(int answer) {
    latestStatus = 0;
    return answer;
  }

  private static boolean isColour(int colour) {
    return colour >= 0 && colour < COLOURS;
  }

  private static boolean isKind(int kind) {
    return kind == 0 || kind == 1;
  }

  private static boolean isDoors(int bits) {
    return bits >= 0 && bits < DOOR_BITS;
  }

  private static boolean isStoreSet(int set) {
    return set >= 0 && set < ALL_SETS;
  }

  private boolean isAim(int to) {
    return to == NONE || maze.hasPlace(to);
  }

  private boolean isSetOf(int mix, int set) {
    if (mix < 1 || mix > 3 || set < 0 || set >= ALL_SETS) {
      return false;
    }
    int all = (1 << maze.places) - 1;
    if (mix == 3) {
      return maze.places <= 6 && (set & 63 & ~all) == 0 && (set >> 6 & ~all) == 0;
    }
    return (set & ~all) == 0;
  }

  private int standOf(int set) {
    return set * DOOR_BITS + maze.doors;
  }

  private int hearAt(int mix, int stand, int word) {
    moves.makeReady(mix, stand % DOOR_BITS, 1 << word);
    return moves.standBehind(mix, stand, word);
  }

  private int standAfter(int mix, int from, int n) {
    if (n < 0 || n > maze.calledCount) {
      return NONE;
    }
    int stand = from;
    for (int i = 0; i < n && stand != NONE; i++) {
      stand = hearAt(mix, stand, maze.called[i]);
    }
    return stand;
  }

  private int firstLapWith(int stand, int lapCount) {
    for (int lap = 0; lap < lapCount && lap < laps.length; lap++) {
      if (laps[lap] == stand) {
        return lap;
      }
    }
    return NONE;
  }

  private void findFewest(int mix, int set, int to, int skipped) {
    moves.makeAllReady(mix, maze.doors);
    search.find(mix, standOf(set), to, skipped);
  }

  private void findPairs(int kind) {
    int mix = kind + 1;
    if (pairs.isOf(mix, NONE, maze.doors)) {
      return;
    }
    moves.makeAllReady(mix, maze.doors);
    pairs.begin(mix, NONE, maze.doors);
    pairs.addSight(ALL_SETS - 1);
    for (int one = 0; one < maze.places; one++) {
      for (int other = one + 1; other < maze.places; other++) {
        pairs.enter((1 << one) | (1 << other), maze.doors);
      }
    }
    pairs.solve();
  }

  private void findSights(int set) {
    if (sights.isOf(1, set, maze.doors)) {
      return;
    }
    moves.makeAllReady(1, maze.doors);
    sights.begin(1, set, maze.doors);
    for (int colour = 0; colour < COLOURS; colour++) {
      sights.addSight(maze.placesOf(colour));
    }
    sights.enter(set, maze.doors);
    sights.solve();
  }

  private int soonestPair(int stand) {
    int set = stand / DOOR_BITS;
    int soonest = NONE;
    int least = ALL_STANDS;
    for (int one = 0; one < maze.places; one++) {
      for (int other = one + 1; other < maze.places; other++) {
        int two = (1 << one) | (1 << other);
        int level = (set & two) == two ? pairs.levelOf(two, stand % DOOR_BITS) : NONE;
        if (level != NONE && level < least) {
          least = level;
          soonest = two;
        }
      }
    }
    return soonest;
  }

  private int bringTogether(int kind, int two, int stand) {
    int whole = stand;
    int part = two * DOOR_BITS + stand % DOOR_BITS;
    int level = pairs.levelOf(two, stand % DOOR_BITS);
    for (int i = 0; i < level; i++) {
      int word = pairs.firstWord(part / DOOR_BITS, part % DOOR_BITS);
      if (word == NONE) {
        return whole;
      }
      part = moves.standBehind(kind + 1, part, word);
      whole = moves.standBehind(kind + 1, whole, word);
    }
    return whole;
  }

  private void hearOnPaper(int word) {
    int open = latestHorn.doors;
    moves.makeReady(3, open, 1 << word);
    for (int i = 0; i < latestHorn.walkers; i++) {
      latestHorn.at[i] = moves.placeBehind(maze.walkerKind[i], word, latestHorn.at[i], open);
    }
    latestHorn.doors = maze.doorsBehind(word, open);
  }

  // ---- the classes inside

  /** All that an image keeps. */
  static final class Maze {
    int places = 0;
    int words = 0;
    int doors = 0;
    int lawCount = 0;
    int inForce = NONE;
    int calledCount = 0;
    int walkers = 0;
    final int[] colours = new int[MOST_PLACES];
    final int[] opens = new int[MOST_WORDS];
    final int[] shuts = new int[MOST_WORDS];
    final int[] leads = new int[MOST_WORDS * MOST_PLACES];
    final int[] hears = new int[2 * MOST_WORDS];
    final int[] called = new int[MOST_CALLED];
    final int[] walkerAt = new int[MOST_WALKERS];
    final int[] walkerKind = new int[MOST_WALKERS];
    final Law[] laws = new Law[MOST_LAWS];
    final Store store = new Store();

    boolean hasPlace(int place) {
      return place >= 0 && place < places;
    }

    boolean hasWord(int word) {
      return word >= 0 && word < words;
    }

    boolean hasWalker(int walker) {
      return walker >= 0 && walker < walkers;
    }

    void addWord(int opened, int shut) {
      if (words >= MOST_WORDS) {
        return;
      }
      opens[words] = opened;
      shuts[words] = shut;
      hears[words] = words;
      hears[MOST_WORDS + words] = words;
      // Places that come later lead to themselves at first, too.
      for (int i = 0; i < MOST_PLACES; i++) {
        leads[words * MOST_PLACES + i] = i;
      }
      words++;
    }

    int doorsBehind(int word, int open) {
      return (open | opens[word & 7]) & ~shuts[word & 7];
    }

    int placesOf(int colour) {
      int set = 0;
      for (int i = 0; i < places; i++) {
        if (colours[i] == colour) {
          set |= 1 << i;
        }
      }
      return set;
    }

    Law lawInForce() {
      return inForce >= 0 && inForce < lawCount ? laws[inForce] : null;
    }

    void copyFrom(Maze other) {
      places = other.places;
      words = other.words;
      doors = other.doors;
      lawCount = other.lawCount;
      inForce = other.inForce;
      calledCount = other.calledCount;
      walkers = other.walkers;
      System.arraycopy(other.colours, 0, colours, 0, MOST_PLACES);
      System.arraycopy(other.opens, 0, opens, 0, MOST_WORDS);
      System.arraycopy(other.shuts, 0, shuts, 0, MOST_WORDS);
      System.arraycopy(other.leads, 0, leads, 0, MOST_WORDS * MOST_PLACES);
      System.arraycopy(other.hears, 0, hears, 0, 2 * MOST_WORDS);
      System.arraycopy(other.called, 0, called, 0, MOST_CALLED);
      System.arraycopy(other.walkerAt, 0, walkerAt, 0, MOST_WALKERS);
      System.arraycopy(other.walkerKind, 0, walkerKind, 0, MOST_WALKERS);
      for (int i = 0; i < MOST_LAWS; i++) {
        laws[i] = other.laws[i];
      }
      store.copyStore(other.store);
    }
  }

  /** Sets by their numbers, each with how often it was put in. */
  static final class Store {
    private static final int MOST_HELD = 200;

    int size = 0;
    int total = 0;
    final int[] sets = new int[MOST_HELD];
    final int[] times = new int[MOST_HELD];

    boolean isFull() {
      return total >= MOST_HELD;
    }

    int lowerThan(int set) {
      int low = 0;
      int high = size;
      for (int i = 0; i < MOST_HELD && low < high; i++) {
        int middle = (low + high) / 2;
        if (sets[middle] < set) {
          low = middle + 1;
        } else {
          high = middle;
        }
      }
      return low;
    }

    int timesOf(int set) {
      int at = lowerThan(set);
      return at < size && sets[at] == set ? times[at] : 0;
    }

    int put(int set) {
      int at = lowerThan(set);
      if (total >= MOST_HELD) {
        return 0;
      }
      if (at >= size || sets[at] != set) {
        System.arraycopy(sets, at, sets, at + 1, size - at);
        System.arraycopy(times, at, times, at + 1, size - at);
        sets[at] = set;
        times[at] = 0;
        size++;
      }
      times[at]++;
      total++;
      return times[at];
    }

    int take(int set) {
      int at = lowerThan(set);
      if (at >= size || sets[at] != set) {
        return 0;
      }
      total--;
      times[at]--;
      int left = times[at];
      if (left == 0) {
        size--;
        System.arraycopy(sets, at + 1, sets, at, size - at);
        System.arraycopy(times, at + 1, times, at, size - at);
      }
      return left;
    }

    int within(int set) {
      int found = 0;
      for (int i = 0; i < size; i++) {
        if ((sets[i] & ~set) == 0) {
          found++;
        }
      }
      return found;
    }

    int having(int set) {
      int found = 0;
      for (int i = 0; i < size; i++) {
        if ((set & ~sets[i]) == 0) {
          found++;
        }
      }
      return found;
    }

    int lowestHaving(int set) {
      for (int i = lowerThan(set); i < size; i++) {
        if ((set & ~sets[i]) == 0) {
          return sets[i];
        }
      }
      return NONE;
    }

    int nearest(int set) {
      int best = NONE;
      int least = ALL_STANDS;
      for (int i = 0; i < size; i++) {
        int bits = Integer.bitCount(sets[i] ^ set);
        if (bits < least) {
          least = bits;
          best = sets[i];
        }
      }
      return best;
    }

    void copyStore(Store other) {
      size = other.size;
      total = other.total;
      System.arraycopy(other.sets, 0, sets, 0, MOST_HELD);
      System.arraycopy(other.times, 0, times, 0, MOST_HELD);
    }
  }

  /** The bytes that were fed. */
  static final class Tape {
    int size = 0;
    final int[] bytes = new int[MOST_BYTES];

    boolean hasRoomFor(int more) {
      return size + more <= MOST_BYTES;
    }

    void addFour(int number) {
      if (!hasRoomFor(4)) {
        return;
      }
      for (int i = 0; i < 4; i++) {
        bytes[size + i] = number >>> (24 - 8 * i) & 255;
      }
      size += 4;
    }
  }

  /** Clauses as steps of a small stack machine; it is never changed once it is made. */
  static final class Law {
    static final int NUMBER = 0;
    static final int FACT = 1;
    static final int ADD = 2;
    static final int TAKE = 3;
    static final int TIMES = 4;
    static final int PART_BY = 5;
    static final int LESS = 6;
    static final int MORE = 7;
    static final int SAME = 8;
    static final int NOT = 9;
    static final int OR_ELSE = 10;
    static final int AND_THEN = 11;

    // A clause: whether it leads, where its sum begins, where its test begins, where it ends.
    static final int CLAUSE_SIZE = 4;
    static final long BROKEN = -2000000000L;

    private static final long FARTHEST = 1000000000;

    private final int[] code;
    private final int[] clauses;
    private final long[] stack = new long[64];

    Law(int[] code, int[] clauses) {
      this.code = code;
      this.clauses = clauses;
    }

    /** What the last clause that leads and holds tells; BROKEN if there is none. */
    long told(int[] facts) {
      for (int at = clauses.length - CLAUSE_SIZE; at >= 0; at -= CLAUSE_SIZE) {
        if (clauses[at] == 1 && valueOf(clauses[at + 2], clauses[at + 3], facts) == 1) {
          long sum = valueOf(clauses[at + 1], clauses[at + 2], facts);
          if (sum != BROKEN) {
            return sum;
          }
        }
      }
      return BROKEN;
    }

    boolean bars(int[] facts) {
      for (int at = 0; at + CLAUSE_SIZE <= clauses.length; at += CLAUSE_SIZE) {
        if (clauses[at] == 0 && valueOf(clauses[at + 2], clauses[at + 3], facts) == 1) {
          return true;
        }
      }
      return false;
    }

    /** The value of a sum, or 1 or 0 of a test; a test that is left out is so. */
    private long valueOf(int from, int to, int[] facts) {
      if (from == to) {
        return 1;
      }
      int high = 0;
      for (int i = from; i < to && i < code.length; i++) {
        int op = code[i] & 15;
        int told = code[i] >> 4;
        int used = op <= FACT ? 0 : op <= SAME ? 2 : 1;
        if (high < used || high >= stack.length) {
          return BROKEN;
        }
        long left = used == 2 ? stack[high - 2] : 0;
        long right = used >= 1 ? stack[high - 1] : 0;
        long result;
        switch (op) {
          case NUMBER: result = told; break;
          case FACT: result = told < facts.length ? facts[told] : BROKEN; break;
          case ADD: result = left + right; break;
          case TAKE: result = left - right; break;
          case TIMES: result = left * right; break;
          case PART_BY: result = right == 0 ? BROKEN : left / right; break;
          case LESS: result = left < right ? 1 : 0; break;
          case MORE: result = left > right ? 1 : 0; break;
          case SAME: result = left == right ? 1 : 0; break;
          case NOT: result = 1 - right; break;
          default: result = right; break;
        }
        if (result > FARTHEST || result < -FARTHEST) {
          return BROKEN;
        }
        if (op < OR_ELSE) {
          high = high - used + 1;
          stack[high - 1] = result;
        } else if (right != (op == OR_ELSE ? 1 : 0)) {
          high--;
        } else if (told > i) {
          // What stands behind can't matter any more.
          i = told - 1;
        }
      }
      return high == 1 ? stack[0] : BROKEN;
    }
  }

  /** A text's tokens, the end's being the last. */
  static final class Tokens {
    // A token of one byte that is no letter and no digit is that byte.
    static final int END = -1;
    static final int UNKNOWN = 256;
    static final int NUMBER = 257;
    static final int LEADS = 258;
    static final int BARRED = 259;
    static final int IF = 260;
    static final int OR = 261;
    static final int AND = 262;
    static final int NOT = 263;
    static final int FIRST_FACT = 264;
    static final int LAST_FACT = 270;
    static final int MOST_NUMBER = 1000;

    // In the order of the tokens from LEADS on.
    private static final String NAMES =
        "leads barred if or and not word place kind colour north east west ";

    private int size = 0;
    private int at = 0;
    private final int[] kinds = new int[MOST_BYTES + 1];
    private final int[] starts = new int[MOST_BYTES + 1];
    private final int[] values = new int[MOST_BYTES + 1];

    void scan(int[] text, int length) {
      size = 0;
      at = 0;
      int next = 0;
      for (int i = 0; i < MOST_BYTES && next < length; i++) {
        int first = text[next];
        int start = next;
        next++;
        if (isLetter(first)) {
          while (next < length && isLetter(text[next])) {
            next++;
          }
          add(nameOf(text, start, next), start, 0);
        } else if (isDigit(first)) {
          while (next < length && isDigit(text[next])) {
            next++;
          }
          add(NUMBER, start, numberOf(text, start, next));
        } else if (first != ' ') {
          add(first, start, 0);
        }
      }
      add(END, length, 0);
    }

    int kind() {
      return kinds[at];
    }

    int value() {
      return values[at];
    }

    int start() {
      return starts[at];
    }

    void advance() {
      if (at + 1 < size) {
        at++;
      }
    }

    private void add(int kind, int start, int value) {
      if (size < kinds.length) {
        kinds[size] = kind;
        starts[size] = start;
        values[size] = value;
        size++;
      }
    }

    private static int numberOf(int[] text, int start, int end) {
      int value = 0;
      for (int i = start; i < end; i++) {
        // Beyond the most that a number may be it only has to stay beyond.
        value = Math.min(MOST_NUMBER + 1, value * 10 + text[i] - '0');
      }
      return value;
    }

    private static int nameOf(int[] text, int start, int end) {
      int name = LEADS;
      int at = start;
      boolean isSame = true;
      for (int i = 0; i < NAMES.length(); i++) {
        char sign = NAMES.charAt(i);
        if (sign != ' ') {
          isSame = isSame && at < end && text[at] == sign;
          at++;
        } else if (isSame && at == end) {
          return name;
        } else {
          name++;
          at = start;
          isSame = true;
        }
      }
      return UNKNOWN;
    }

    private static boolean isLetter(int sign) {
      return sign >= 'a' && sign <= 'z';
    }

    private static boolean isDigit(int sign) {
      return sign >= '0' && sign <= '9';
    }
  }

  /** Reads a text into a law. */
  static final class LawReader {
    private static final int MOST_CLAUSES = 12;
    private static final int MOST_PARTS = 50;
    private static final int MOST_DEPTH = 8;

    // What is joined by which signs, from the loosest on.
    private static final int TEST = 0;
    private static final int BOTH = 1;
    private static final int PLAIN = 2;
    private static final int SUM = 3;
    private static final int TERM = 4;
    private static final int PART = 5;

    final Tokens tokens = new Tokens();
    private int parts = 0;
    private int size = 0;
    private final int[] code = new int[2 * MOST_BYTES];
    private final int[] clauses = new int[MOST_CLAUSES * Law.CLAUSE_SIZE];

    /** The law, or null: the fault is the token that the reader stands at then. */
    Law read(int[] text, int length) {
      tokens.scan(text, Math.min(length, text.length));
      parts = 0;
      size = 0;
      for (int at = 0; at < clauses.length; at += Law.CLAUSE_SIZE) {
        if (!readClause(at)) {
          return null;
        }
        if (tokens.kind() == Tokens.END) {
          return new Law(Arrays.copyOf(code, size), Arrays.copyOf(clauses, at + Law.CLAUSE_SIZE));
        }
        if (tokens.kind() != ';') {
          return null;
        }
        tokens.advance();
      }
      // The reader stands at the first token of one clause too many.
      return null;
    }

    private boolean readClause(int at) {
      boolean isLeads = tokens.kind() == Tokens.LEADS;
      if ((!isLeads && tokens.kind() != Tokens.BARRED) || at + Law.CLAUSE_SIZE > clauses.length) {
        return false;
      }
      clauses[at] = isLeads ? 1 : 0;
      clauses[at + 1] = size;
      tokens.advance();
      if (isLeads && !readJoined(SUM, 0)) {
        return false;
      }
      clauses[at + 2] = size;
      if (tokens.kind() == Tokens.IF) {
        tokens.advance();
        if (!readJoined(TEST, 0)) {
          return false;
        }
      }
      clauses[at + 3] = size;
      return true;
    }

    /** Reads what stands at a rank; depth counts the brackets around it. */
    private boolean readJoined(int rank, int depth) {
      if (depth > MOST_DEPTH) {
        return false;
      }
      if (rank == PLAIN) {
        return readPlain(depth);
      }
      if (rank >= PART) {
        return readPart(depth);
      }
      boolean good = readJoined(rank + 1, depth);
      int op = joinerOf(rank);
      for (int i = 0; i < MOST_BYTES && good && op != NONE; i++) {
        tokens.advance();
        // "or" and "and" come ahead of what stands behind them, to leap over it.
        int leap = size;
        if (rank < PLAIN) {
          emit(op, 0);
        }
        good = readJoined(rank + 1, depth);
        if (rank > PLAIN) {
          emit(op, 0);
        } else if (leap < code.length) {
          code[leap] = op | size << 4;
        }
        op = joinerOf(rank);
      }
      return good;
    }

    private int joinerOf(int rank) {
      int token = tokens.kind();
      switch (rank) {
        case TEST:
          return token == Tokens.OR ? Law.OR_ELSE : NONE;
        case BOTH:
          return token == Tokens.AND ? Law.AND_THEN : NONE;
        case SUM:
          return token == '+' ? Law.ADD : token == '-' ? Law.TAKE : NONE;
        case TERM:
          return token == '*' ? Law.TIMES : token == '/' ? Law.PART_BY : NONE;
        default:
          return NONE;
      }
    }

    private boolean readPlain(int depth) {
      boolean isTurned = false;
      for (int i = 0; i < MOST_BYTES && tokens.kind() == Tokens.NOT; i++) {
        isTurned = !isTurned;
        tokens.advance();
      }
      if (tokens.kind() == '(') {
        if (!readBracketed(TEST, ')', depth)) {
          return false;
        }
      } else {
        if (!readJoined(SUM, depth)) {
          return false;
        }
        int op = comparerOf(tokens.kind());
        if (op == NONE) {
          return false;
        }
        tokens.advance();
        if (!readJoined(SUM, depth)) {
          return false;
        }
        emit(op, 0);
      }
      if (isTurned) {
        emit(Law.NOT, 0);
      }
      return true;
    }

    private static int comparerOf(int token) {
      return token == '<' ? Law.LESS : token == '>' ? Law.MORE : token == '=' ? Law.SAME : NONE;
    }

    private boolean readPart(int depth) {
      int token = tokens.kind();
      if (token == '[') {
        return readBracketed(SUM, ']', depth);
      }
      boolean isFact = token >= Tokens.FIRST_FACT && token <= Tokens.LAST_FACT;
      boolean isNumber = token == Tokens.NUMBER && tokens.value() <= Tokens.MOST_NUMBER;
      if ((!isFact && !isNumber) || parts >= MOST_PARTS) {
        return false;
      }
      parts++;
      if (isFact) {
        emit(Law.FACT, token - Tokens.FIRST_FACT);
      } else {
        emit(Law.NUMBER, tokens.value());
      }
      tokens.advance();
      return true;
    }

    private boolean readBracketed(int rank, int closing, int depth) {
      if (depth >= MOST_DEPTH) {
        return false;
      }
      tokens.advance();
      if (!readJoined(rank, depth + 1) || tokens.kind() != closing) {
        return false;
      }
      tokens.advance();
      return true;
    }

    private void emit(int op, int told) {
      if (size < code.length) {
        code[size] = op | told << 4;
        size++;
      }
    }
  }

  /** Where words lead, by the tables and the law in force; made when asked for, till forgotten. */
  static final class Moves {
    private static final int HALF = 64;
    private static final int KIND_SIZE = DOOR_BITS * MOST_WORDS * 2 * HALF;

    int version = 0;
    private final Maze maze;
    private final int[] facts = new int[7];
    // For kind, doors, word: the images of all sets of places 0 to 5, then of places 6 to 11.
    private final int[] halves = new int[2 * KIND_SIZE];
    private final int[] readyWords = new int[2 * DOOR_BITS];
    private final int[] judgedWords = new int[DOOR_BITS];
    private final int[] allowed = new int[DOOR_BITS];

    Moves(Maze maze) {
      this.maze = maze;
    }

    /** Comes ahead of every change of the maze that a table or a search could rest on. */
    void forget() {
      version++;
      Arrays.fill(readyWords, 0);
      Arrays.fill(judgedWords, 0);
      Arrays.fill(allowed, 0);
    }

    int step(int kind, int word, int place, int open) {
      int heard = maze.hears[(kind & 1) * MOST_WORDS + (word & 7)];
      if (!maze.hasWord(heard) || !maze.hasPlace(place)) {
        return place;
      }
      Law law = maze.lawInForce();
      if (law != null) {
        setFacts(heard, open);
        facts[1] = place;
        facts[2] = kind;
        facts[3] = maze.colours[place];
        long told = law.told(facts);
        if (told >= 0 && told < maze.places) {
          return (int) told;
        }
      }
      return maze.leads[heard * MOST_PLACES + place];
    }

    boolean forbids(int word, int open) {
      Law law = maze.lawInForce();
      if (law == null) {
        return false;
      }
      setFacts(word, open);
      facts[1] = 0;
      facts[2] = 0;
      facts[3] = 0;
      return law.bars(facts);
    }

    private void setFacts(int word, int open) {
      facts[0] = word;
      facts[4] = open & 1;
      facts[5] = open >> 1 & 1;
      facts[6] = open >> 2 & 1;
    }

    int allowedWords(int open) {
      int doors = open & 7;
      for (int word = 0; word < maze.words; word++) {
        int bit = 1 << word;
        if ((judgedWords[doors] & bit) == 0) {
          judgedWords[doors] |= bit;
          if (!forbids(word, doors)) {
            allowed[doors] |= bit;
          }
        }
      }
      return allowed[doors];
    }

    /** Makes the tables of some words (bits) with doors, as far as they are not barred. */
    void makeReady(int mix, int open, int words) {
      int doors = open & 7;
      int wanted = allowedWords(doors) & words;
      for (int kind = 0; kind < 2; kind++) {
        int lacking = (mix >> kind & 1) == 0 ? 0 : wanted & ~readyWords[kind * DOOR_BITS + doors];
        for (int word = 0; word < maze.words; word++) {
          if ((lacking >> word & 1) == 1) {
            fillTable(kind, word, doors);
          }
        }
        readyWords[kind * DOOR_BITS + doors] |= lacking;
      }
    }

    /** Makes all tables that words said from these doors on can need. */
    void makeAllReady(int mix, int open) {
      int waiting = 1 << (open & 7);
      int done = 0;
      for (int i = 0; i < DOOR_BITS && waiting != 0; i++) {
        int now = Integer.numberOfTrailingZeros(waiting);
        makeReady(mix, now, 255);
        done |= 1 << now;
        for (int word = 0; word < maze.words; word++) {
          if ((allowed[now & 7] >> word & 1) == 1) {
            waiting |= 1 << maze.doorsBehind(word, now);
          }
        }
        waiting &= ~done;
      }
    }

    private void fillTable(int kind, int word, int doors) {
      int base = tableOf(kind, word, doors);
      for (int half = 0; half < 2; half++) {
        int at = base + half * HALF;
        halves[at] = 0;
        for (int set = 1; set < HALF; set++) {
          int rest = set & (set - 1);
          if (rest != 0) {
            halves[at + set] = halves[at + rest] | halves[at + (set ^ rest)];
          } else {
            int place = 6 * half + Integer.numberOfTrailingZeros(set);
            halves[at + set] = maze.hasPlace(place) ? 1 << step(kind, word, place, doors) : 0;
          }
        }
      }
    }

    private static int tableOf(int kind, int word, int doors) {
      return (kind & 1) * KIND_SIZE + ((doors & 7) * MOST_WORDS + (word & 7)) * 2 * HALF;
    }

    /** The stand behind a word whose tables are ready; NONE if the word is barred. */
    int standBehind(int mix, int stand, int word) {
      int open = stand & 7;
      if ((allowed[open] >> word & 1) == 0) {
        return NONE;
      }
      int low = stand >> 3 & 63;
      int high = stand >> 9 & 63;
      int image;
      if (mix == 3) {
        image = halves[tableOf(0, word, open) + low] | halves[tableOf(1, word, open) + high] << 6;
      } else {
        int at = tableOf(mix - 1, word, open);
        image = halves[at + low] | halves[at + HALF + high];
      }
      return image * DOOR_BITS + maze.doorsBehind(word, open);
    }

    /** Where one place leads, by a word whose tables are ready. */
    int placeBehind(int kind, int word, int place, int open) {
      int at = tableOf(kind, word, open);
      int image = place < 6
          ? halves[at + (1 << place & 63)]
          : halves[at + HALF + (1 << (place - 6) & 63)];
      return Integer.numberOfTrailingZeros(image);
    }
  }

  /** The stands that can be come to, those by the fewest words first. */
  static final class Search {
    // An aim that no stand meets, so that all stands are come to.
    static final int NOWHERE = -2;

    private static final int MOST_WAYS = 1000000000;
    private static final int FIRST_ROOM = 16;

    int fewest = NONE;
    int ways = 0;
    int size = 0;
    private int goal = NONE;
    private int mix = 0;
    private int begun = NONE;
    private int aim = NONE;
    private int skipped = NONE;
    private int version = NONE;
    private final Moves moves;
    // By stand: its position in the queue, and one.
    private int[] seen = new int[FIRST_ROOM];
    private int[] queue = new int[FIRST_ROOM];
    // By position: the position that it was come to from, times 8, and the word.
    private int[] from = new int[FIRST_ROOM];
    private int[] rows = new int[FIRST_ROOM];

    Search(Moves moves) {
      this.moves = moves;
    }

    /** Searches from a stand; moves must be ready. What was found last is kept. */
    void find(int mixOf, int stand, int to, int without) {
      if (version == moves.version && mix == mixOf && begun == stand
          && aim == to && skipped == without) {
        return;
      }
      clear();
      version = moves.version;
      mix = mixOf;
      begun = stand;
      aim = to;
      skipped = without;
      add(stand, NONE, 1);
      int first = 0;
      for (int words = 0; words <= ALL_STANDS && first < size; words++) {
        int last = size;
        gather(first, last);
        if (goal != NONE) {
          fewest = words;
          return;
        }
        spread(first, last);
        first = last;
      }
    }

    private void clear() {
      for (int i = 0; i < size; i++) {
        seen[queue[i]] = 0;
      }
      size = 0;
      goal = NONE;
      fewest = NONE;
      ways = 0;
    }

    private void gather(int first, int last) {
      for (int i = first; i < last; i++) {
        if (isTogether(queue[i] / DOOR_BITS)) {
          if (goal == NONE) {
            goal = i;
          }
          ways = Math.min(MOST_WAYS, ways + rows[i]);
        }
      }
    }

    private boolean isTogether(int set) {
      int bits = mix == 3 ? (set & 63) | set >> 6 : set;
      if (aim == NONE) {
        return Integer.bitCount(bits) == 1;
      }
      return aim >= 0 && bits == 1 << aim;
    }

    private void spread(int first, int last) {
      for (int i = first; i < last; i++) {
        for (int word = 0; word < MOST_WORDS; word++) {
          int stand = word == skipped ? NONE : moves.standBehind(mix, queue[i], word);
          if (stand != NONE) {
            int known = stand < seen.length ? seen[stand] - 1 : NONE;
            if (known == NONE) {
              add(stand, i * MOST_WORDS + word, rows[i]);
            } else if (known >= last) {
              rows[known] = Math.min(MOST_WAYS, rows[known] + rows[i]);
            }
          }
        }
      }
    }

    private void add(int stand, int cameFrom, int rowCount) {
      if (stand < 0 || stand >= ALL_STANDS) {
        return;
      }
      if (stand >= seen.length) {
        seen = Arrays.copyOf(seen, Integer.highestOneBit(stand) * 2);
      }
      if (size >= queue.length) {
        queue = Arrays.copyOf(queue, size * 2);
        from = Arrays.copyOf(from, size * 2);
        rows = Arrays.copyOf(rows, size * 2);
      }
      queue[size] = stand;
      from[size] = cameFrom;
      rows[size] = rowCount;
      size++;
      seen[stand] = size;
    }

    int wordOfFirst(int i) {
      if (i < 0 || i >= fewest) {
        return NONE;
      }
      int at = goal;
      for (int words = fewest - 1; words > i && at > 0 && at < size; words--) {
        at = from[at] / MOST_WORDS;
      }
      return at > 0 && at < size ? from[at] % MOST_WORDS : NONE;
    }

    int wordsOfFirst() {
      int used = 0;
      int at = goal;
      for (int i = 0; i < fewest && at > 0 && at < size; i++) {
        used |= 1 << from[at] % MOST_WORDS;
        at = from[at] / MOST_WORDS;
      }
      return used;
    }
  }

  /**
   * How many words it takes at the worst till a set is one place, if behind each word one is told
   * which of some sights (sets of places) it is in. With one sight of all places: till it is
   * together.
   */
  static final class Levels {
    private static final int FIRST_ROOM = 16;

    private int mix = 0;
    private int root = NONE;
    private int begun = NONE;
    private int version = NONE;
    private int sightCount = 0;
    private int size = 0;
    private int solved = 0;
    private final Moves moves;
    private final int[] sights = new int[COLOURS];
    // By stand: its position, and one.
    private int[] seen = new int[FIRST_ROOM];
    private int[] stands = new int[FIRST_ROOM];
    // By position: 0 as long as no row of words is known for it.
    private int[] level = new int[FIRST_ROOM];
    private int[] order = new int[FIRST_ROOM];
    // By position: the first edge that waits for it, and one.
    // An edge is 8 times a position, and a word.
    private int[] waiting = new int[FIRST_ROOM];
    private int[] nextWaiting = new int[FIRST_ROOM * MOST_WORDS];

    Levels(Moves moves) {
      this.moves = moves;
    }

    boolean isOf(int mixOf, int rootOf, int doors) {
      return version == moves.version && mix == mixOf && root == rootOf && begun == doors;
    }

    void begin(int mixOf, int rootOf, int doors) {
      for (int i = 0; i < size; i++) {
        seen[stands[i]] = 0;
      }
      size = 0;
      solved = 0;
      sightCount = 0;
      version = moves.version;
      mix = mixOf;
      root = rootOf;
      begun = doors;
    }

    void addSight(int set) {
      if (set != 0 && sightCount < sights.length) {
        sights[sightCount] = set;
        sightCount++;
      }
    }

    /** A set of one place needs no word, so it is not held. */
    void enter(int set, int doors) {
      int stand = set * DOOR_BITS + doors;
      if (Integer.bitCount(set) < 2 || stand < 0 || stand >= ALL_STANDS
          || positionOf(stand) != NONE) {
        return;
      }
      if (stand >= seen.length) {
        seen = Arrays.copyOf(seen, Integer.highestOneBit(stand) * 2);
      }
      if (size >= stands.length) {
        stands = Arrays.copyOf(stands, size * 2);
        level = Arrays.copyOf(level, size * 2);
        order = Arrays.copyOf(order, size * 2);
        waiting = Arrays.copyOf(waiting, size * 2);
        nextWaiting = Arrays.copyOf(nextWaiting, size * 2 * MOST_WORDS);
      }
      stands[size] = stand;
      level[size] = 0;
      waiting[size] = 0;
      size++;
      seen[stand] = size;
    }

    private int positionOf(int stand) {
      return stand >= 0 && stand < seen.length ? seen[stand] - 1 : NONE;
    }

    /** Comes to all stands from those entered, then settles them from the fewest words on. */
    void solve() {
      for (int i = 0; i < size && i < ALL_STANDS; i++) {
        enterBehind(stands[i]);
      }
      for (int edge = 0; edge < size * MOST_WORDS; edge++) {
        if (level[edge / MOST_WORDS] == 0) {
          arrange(edge, 0);
        }
      }
      for (int i = 0; i < solved && i < ALL_STANDS; i++) {
        settle(order[i]);
      }
    }

    private void enterBehind(int stand) {
      for (int word = 0; word < MOST_WORDS; word++) {
        int behind = moves.standBehind(mix, stand, word);
        for (int i = 0; i < sightCount && behind != NONE; i++) {
          enter(behind / DOOR_BITS & sights[i], behind % DOOR_BITS);
        }
      }
    }

    private void settle(int position) {
      int edge = waiting[position] - 1;
      waiting[position] = 0;
      for (int i = 0; i < size * MOST_WORDS && edge >= 0; i++) {
        int following = nextWaiting[edge] - 1;
        if (level[edge / MOST_WORDS] == 0) {
          arrange(edge, level[position]);
        }
        edge = following;
      }
    }

    /** Lets an edge wait for a part that needs more words than so many; without one it settles. */
    private void arrange(int edge, int words) {
      int position = edge / MOST_WORDS;
      int behind = moves.standBehind(mix, stands[position], edge % MOST_WORDS);
      if (behind == NONE) {
        return;
      }
      for (int i = 0; i < sightCount; i++) {
        int set = behind / DOOR_BITS & sights[i];
        int part = (set & (set - 1)) == 0 ? NONE : positionOf(set * DOOR_BITS + behind % DOOR_BITS);
        if (part != NONE && (level[part] == 0 || level[part] > words)) {
          nextWaiting[edge] = waiting[part];
          waiting[part] = edge + 1;
          return;
        }
      }
      level[position] = words + 1;
      order[solved] = position;
      solved++;
    }

    int levelOf(int set, int doors) {
      if (Integer.bitCount(set) == 1) {
        return 0;
      }
      int position = positionOf(set * DOOR_BITS + doors);
      return position == NONE || level[position] == 0 ? NONE : level[position];
    }

    /** The lowest word behind which one word less is enough; NONE if none is needed, or never. */
    int firstWord(int set, int doors) {
      int words = levelOf(set, doors);
      for (int word = 0; word < MOST_WORDS && words > 0; word++) {
        int behind = moves.standBehind(mix, set * DOOR_BITS + doors, word);
        if (behind != NONE && isWithin(behind, words - 1)) {
          return word;
        }
      }
      return NONE;
    }

    private boolean isWithin(int stand, int words) {
      for (int i = 0; i < sightCount; i++) {
        int set = stand / DOOR_BITS & sights[i];
        int needed = set == 0 ? 0 : levelOf(set, stand % DOOR_BITS);
        if (needed == NONE || needed > words) {
          return false;
        }
      }
      return true;
    }
  }

  /** What was drawn last, on paper. */
  static final class Horn {
    boolean isMade = false;
    int doors = 0;
    int walkers = 0;
    final int[] at = new int[MOST_WALKERS];
    private int seed = 0;

    void begin(Maze maze, int newSeed) {
      isMade = true;
      seed = newSeed;
      doors = maze.doors;
      walkers = maze.walkers;
      System.arraycopy(maze.walkerAt, 0, at, 0, MOST_WALKERS);
    }

    /** One of some words (bits), by its number among them; NONE if there are none. */
    int draw(int words) {
      int choices = Integer.bitCount(words);
      if (choices == 0) {
        return NONE;
      }
      seed = (seed * 1103 + 12345) % 1000003;
      int ahead = seed % choices;
      for (int word = 0; word < MOST_WORDS; word++) {
        if ((words >> word & 1) == 1) {
          if (ahead == 0) {
            return word;
          }
          ahead--;
        }
      }
      return NONE;
    }
  }
}
