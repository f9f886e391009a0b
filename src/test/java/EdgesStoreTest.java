/** The edges that Terms IV and promises 36 to 52 name. */
public final class EdgesStoreTest {
  private static final int NONE = Checks.NONE;
  private static final int MAX = Checks.MAX;
  private static final int MIN = Checks.MIN;

  /** "The STORE holds SETS (0 .. 4095), each as often as it was put in". */
  private static void sets() {
    HornMaze x = new HornMaze();
    for (int set : new int[] {-1, 4096, MAX, MIN}) {
      Checks.due(36, "hold(" + set + ")", x.hold(set), -1);
      Checks.due(37, "drop(" + set + ")", x.drop(set), -1);
      Checks.due(38, "held(" + set + ")", x.held(set), NONE);
      Checks.due(40, "rank(" + set + ")", x.rank(set), NONE);
      for (int what = 0; what <= 2; what++) {
        Checks.due(41, "about(" + set + ", " + what + ")", x.about(set, what), NONE);
        Checks.due(42, "near(" + set + ", " + what + ")", x.near(set, what), NONE);
      }
    }
    for (int set : new int[] {0, 4095}) {
      Checks.due(38, "held(" + set + ") ahead", x.held(set), 0);
      Checks.due(37, "drop(" + set + ") of none", x.drop(set), -3);
      Checks.due(36, "hold(" + set + ")", x.hold(set), 1);
      Checks.due(36, "hold(" + set + ") again", x.hold(set), 2);
      Checks.due(38, "held(" + set + ")", x.held(set), 2);
      Checks.due(37, "drop(" + set + ")", x.drop(set), 1);
      Checks.due(37, "drop(" + set + ") again", x.drop(set), 0);
      Checks.due(37, "drop(" + set + ") once more", x.drop(set), -3);
      Checks.due(38, "held(" + set + ") then", x.held(set), 0);
      Checks.due(39, "kth(NONE) then", x.kth(NONE), 0);
      Checks.due(39, "kth(0) then", x.kth(0), NONE);
      Checks.due(36, "hold(" + set + ") anew", x.hold(set), 1);
      x.drop(set);
    }
    Checks.due(51, "count(4)", x.count(4), 0);
  }

  /** "200 at most together with how often." */
  private static void full() {
    HornMaze x = new HornMaze();
    for (int i = 1; i <= 200; i++) {
      Checks.due(36, "hold(9) " + i, x.hold(9), i);
    }
    Checks.due(36, "the 201st, the same", x.hold(9), -5);
    Checks.due(36, "the 201st, another", x.hold(8), -5);
    Checks.due(36, "the 201st, none", x.hold(4096), -1);
    Checks.due(38, "held(9)", x.held(9), 200);
    Checks.due(38, "held(8)", x.held(8), 0);
    Checks.due(39, "one set", x.kth(NONE), 1);
    Checks.due(37, "drop(9)", x.drop(9), 199);
    Checks.due(36, "another", x.hold(8), 1);
    Checks.due(36, "the 201st again", x.hold(8), -5);
    Checks.due(51, "count(4)", x.count(4), 200);
    HornMaze y = new HornMaze();
    for (int i = 0; i < 200; i++) {
      // Each third time from below, so that sets come in ahead of, behind and among those held.
      y.hold(i % 3 == 0 ? i : 4095 - i * 7);
    }
    Checks.due(39, "200 sets", y.kth(NONE), 200);
    Checks.due(39, "the first", y.kth(0), 0);
    Checks.due(39, "the last", y.kth(199), 4095 - 7);
    Checks.due(39, "no 201st", y.kth(200), NONE);
    Checks.due(36, "a 201st ahead of all that are left", y.hold(1), -5);
    Checks.due(40, "rank(4095)", y.rank(4095), 200);
    Checks.due(43, "between(0, 4095)", y.between(0, 4095), 200);
    Checks.due(41, "about(4095, 0)", y.about(4095, 0), 200);
    Checks.due(41, "about(0, 1)", y.about(0, 1), 200);
    Checks.due(38, "held(4095), behind all", y.held(4095), 0);
    Checks.due(37, "drop(4095), behind all", y.drop(4095), -3);
    Checks.due(41, "about(4095, 2), behind all", y.about(4095, 2), NONE);
    Checks.due(37, "drop the last", y.drop(4088), 0);
    Checks.due(38, "held(4088) then", y.held(4088), 0);
    Checks.due(39, "the last then", y.kth(198), 4095 - 14);
    Checks.due(39, "behind it", y.kth(199), NONE);
    Checks.due(36, "a first-but-one", y.hold(1), 1);
    Checks.due(39, "it stands there", y.kth(1), 1);
    Checks.due(39, "the last once more", y.kth(199), 4095 - 14);
  }

  /** "in the order of their numbers (each once in it)". */
  private static void order() {
    HornMaze x = new HornMaze();
    for (int set : new int[] {4095, 7, 0, 7, 2048, 4095, 7}) {
      x.hold(set);
    }
    int[] sets = {0, 7, 2048, 4095};
    Checks.due(39, "kth(NONE)", x.kth(NONE), 4);
    for (int i = 0; i < 4; i++) {
      Checks.due(39, "kth(" + i + ")", x.kth(i), sets[i]);
      Checks.due(40, "rank(" + sets[i] + ")", x.rank(sets[i]), i);
    }
    for (int i : new int[] {4, 7, -2, MAX, MIN}) {
      Checks.due(39, "kth(" + i + ")", x.kth(i), NONE);
    }
    Checks.due(40, "rank(1)", x.rank(1), 1);
    Checks.due(40, "rank(4094)", x.rank(4094), 3);
    int[][] betweens = {{0, 0, 1}, {0, 4095, 4}, {1, 4094, 2}, {4095, 4095, 1}, {4094, 4095, 1}, {0, 6, 1}, {0, 7, 2},
        {7, 7, 1}, {8, 2047, 0}, {7, 2048, 2}, {8, 8, 0}, {1, 0, NONE}, {4095, 4094, NONE}, {4095, 0, NONE},
        {-1, 0, NONE}, {0, -1, NONE}, {-2, -1, NONE}, {0, 4096, NONE}, {4096, 4096, NONE}, {4095, 4096, NONE},
        {MIN, MAX, NONE}, {0, MAX, NONE}, {MIN, 0, NONE}};
    for (int[] n : betweens) {
      Checks.due(43, "between(" + n[0] + ", " + n[1] + ")", x.between(n[0], n[1]), n[2]);
    }
    x.drop(7);
    Checks.due(39, "7 is still in it", x.kth(1), 7);
    x.drop(7);
    x.drop(7);
    Checks.due(39, "7 is no more in it", x.kth(1), 2048);
    Checks.due(38, "0 as often as ever", x.held(0), 1);
    Checks.due(38, "2048 as often as ever", x.held(2048), 1);
    Checks.due(38, "4095 as often as ever", x.held(4095), 2);
    x.hold(6);
    Checks.due(38, "4095 as often, behind one that came ahead of it", x.held(4095), 2);
    Checks.due(43, "between(7, 7)", x.between(7, 7), 0);
  }

  /** "within a SET (what 0; it, too), have all of it (1); the lowest that has all of it (2; NONE)". */
  private static void about() {
    HornMaze x = new HornMaze();
    for (int set : new int[] {0, 6, 6, 12, 14, 2048}) {
      x.hold(set);
    }
    int[][] abouts = {{0, 0, 1}, {0, 1, 5}, {0, 2, 0}, {6, 0, 2}, {6, 1, 2}, {6, 2, 6}, {14, 0, 4}, {14, 1, 1},
        {14, 2, 14}, {2, 0, 1}, {2, 1, 2}, {2, 2, 6}, {8, 2, 12}, {10, 2, 14}, {1, 0, 1}, {1, 1, 0}, {1, 2, NONE},
        {4095, 0, 5}, {4095, 1, 0}, {4095, 2, NONE}, {2048, 0, 2}, {2048, 1, 1}, {2048, 2, 2048}, {2050, 2, NONE},
        {6, -1, NONE}, {6, 3, NONE}, {6, MAX, NONE}, {6, MIN, NONE}};
    for (int[] n : abouts) {
      Checks.due(41, "about(" + n[0] + ", " + n[1] + ")", x.about(n[0], n[1]), n[2]);
    }
  }

  /** "in the fewest bits (what 0; of alike ones the lowest), in how many bits (1)". */
  private static void near() {
    HornMaze x = new HornMaze();
    Checks.due(42, "the STORE is empty", x.near(0, 0), NONE);
    Checks.due(42, "the STORE is empty, bits", x.near(0, 1), NONE);
    x.hold(4095);
    Checks.due(42, "the only one", x.near(0, 0), 4095);
    Checks.due(42, "in all bits", x.near(0, 1), 12);
    Checks.due(42, "itself", x.near(4095, 0), 4095);
    Checks.due(42, "itself, bits", x.near(4095, 1), 0);
    x.hold(0);
    Checks.due(42, "six bits either way: the lowest", x.near(63, 0), 0);
    Checks.due(42, "six bits", x.near(63, 1), 6);
    Checks.due(42, "seven bits of it are nearer to all", x.near(127, 0), 4095);
    Checks.due(42, "five bits", x.near(127, 1), 5);
    x.hold(5);
    x.hold(6);
    Checks.due(42, "of 5 and 6 the lower", x.near(7, 0), 5);
    Checks.due(42, "of 0, 5 and 6 as far from 4 the lowest", x.near(4, 0), 0);
    Checks.due(42, "by one bit", x.near(4, 1), 1);
    for (int what : new int[] {-1, 2, MAX, MIN}) {
      Checks.due(42, "near(4, " + what + ")", x.near(4, what), NONE);
    }
    x.drop(0);
    Checks.due(42, "0 is dropped", x.near(0, 0), 5);
    Checks.due(42, "0 is dropped, bits", x.near(0, 1), 2);
  }

  /** "WALKERS, 12 at most, stand in PLACES, each of a KIND." */
  private static void walkers() {
    HornMaze x = Checks.maze(12, 2);
    Checks.due(45, "where(0) of none", x.where(0), NONE);
    for (int i = 0; i < 12; i++) {
      Checks.due(44, "walker " + i, x.walker(i, i % 2), i);
    }
    Checks.due(44, "a 13th", x.walker(0, 0), -5);
    int[][] bad = {{0, -1, -1}, {0, 2, -1}, {12, 0, -2}, {-1, 0, -2}, {MAX, 0, -2}, {MIN, 0, -2}, {0, MAX, -1},
        {0, MIN, -1}};
    for (int[] n : bad) {
      Checks.due(44, "walker(" + n[0] + ", " + n[1] + ")", x.walker(n[0], n[1]), n[2]);
    }
    Checks.due(45, "where(0)", x.where(0), 0);
    Checks.due(45, "where(11)", x.where(11), 11);
    for (int walker : new int[] {12, -1, MAX, MIN}) {
      Checks.due(45, "where(" + walker + ")", x.where(walker), NONE);
    }
    Checks.due(46, "in twelve places", x.say(1), 12);
    Checks.leads(x, 0, 1, 1, 3, 3, 5, 5, 7, 7, 9, 9, 11, 11);
    x.hear(1, 0, NONE);
    Checks.due(46, "two and two", x.say(0), 6);
    Checks.due(45, "where(0) then", x.where(0), 1);
    Checks.due(45, "where(11) then", x.where(11), 11);
    for (int word : new int[] {2, -1, MAX, MIN}) {
      Checks.due(46, "say(" + word + ")", x.say(word), -2);
    }
    HornMaze y = Checks.maze(2, 0);
    y.word(1, 0);
    y.word(2, 1);
    Checks.enforce(y, "barred if word = 1 and north = 0; leads 1 if north = 1");
    Checks.due(46, "barred", y.say(1), -3);
    Checks.due(46, "no doors are moved", y.count(13), 0);
    Checks.due(46, "without walkers", y.say(0), 0);
    Checks.due(46, "doors are moved without walkers", y.count(13), 1);
    y.walker(0, 0);
    y.walker(1, 1);
    Checks.due(46, "led by doors as they were, in one place", y.say(1), 1);
    Checks.due(46, "opened and shut", y.count(13), 2);
    Checks.due(46, "barred again", y.say(1), -3);
    Checks.due(45, "nobody moved", y.where(0), 1);
  }

  /** What the document's s draws of so many words without a law, as the doors that each word opens or shuts. */
  private static int doorsDrawn(long seed, int n, int[][] words) {
    long s = seed;
    int doors = 0;
    for (int i = 0; i < n; i++) {
      s = (s * 1103 + 12345) % 1000003;
      int[] word = words[(int) (s % words.length)];
      doors = (doors | word[0]) & ~word[1];
    }
    return doors;
  }

  /** "the SEED (0 .. 1,000,000)", "n WORDS (0 .. 200)". */
  private static void horns() {
    int[][] words = {{1, 0}, {2, 0}, {4, 0}, {0, 1}, {0, 2}, {0, 4}, {5, 2}, {2, 5}};
    HornMaze x = new HornMaze();
    for (int[] word : words) {
      x.word(word[0], word[1]);
    }
    int[][] bad = {{-1, 0}, {1000001, 0}, {0, -1}, {0, 201}, {MAX, 0}, {MIN, 0}, {0, MAX}, {0, MIN}};
    for (int[] n : bad) {
      Checks.due(47, "horn(" + n[0] + ", " + n[1] + ")", x.horn(n[0], n[1]), -1);
      Checks.due(48, "no horn is kept", x.drawn(NONE), NONE);
    }
    for (int seed : new int[] {0, 1, 500000, 999999, 1000000}) {
      for (int n : new int[] {0, 1, 2, 3, 7, 199, 200}) {
        Checks.due(47, "horn(" + seed + ", " + n + ")", x.horn(seed, n), n);
        Checks.due(48, "the doors of horn(" + seed + ", " + n + ")", x.drawn(NONE), doorsDrawn(seed, n, words));
      }
    }
    Checks.due(47, "on paper", x.count(13), 0);
    int last = x.drawn(NONE);
    x.horn(0, 201);
    Checks.due(48, "a refused one is not kept", x.drawn(NONE), last);
    x.doors(7);
    Checks.due(48, "it was from doors as they were", x.drawn(NONE), last);
    x.horn(3, 0);
    Checks.due(48, "a horn of none is kept, too", x.drawn(NONE), 7);
  }

  /** "of the WORDS that are not BARRED then that by s modulo how many there are (none: it ends)". */
  private static void barredHorns() {
    HornMaze x = Checks.maze(4, 0);
    x.word(1, 0);
    x.word(0, 0);
    x.word(2, 0);
    Checks.leads(x, 0, 1, 2, 3, 3);
    Checks.leads(x, 2, 1, 2, 3, 3);
    x.walker(0, 0);
    Checks.enforce(x, "barred if word = 1; barred if word = 0 and north = 1; barred if word = 2 and east = 1");
    // s of seed 0 is 12345, which is odd: of words 0 and 2 the second; then word 0 alone is left.
    Checks.due(47, "one", x.horn(0, 1), 1);
    Checks.due(48, "word 2", x.drawn(NONE), 2);
    Checks.due(47, "two", x.horn(0, 2), 2);
    Checks.due(48, "word 0 behind it", x.drawn(NONE), 3);
    Checks.due(47, "there are no more", x.horn(0, 3), 2);
    Checks.due(48, "two steps", x.drawn(0), 2);
    Checks.due(47, "of 200", x.horn(1000000, 200), 2);
    // s of seed 1 is 13448, which is even.
    x.horn(1, 1);
    Checks.due(48, "word 0", x.drawn(NONE), 1);
    x.doors(3);
    Checks.due(47, "none at all", x.horn(0, 200), 0);
    Checks.due(47, "that is not refused", x.status(), 0);
    Checks.due(48, "it is kept", x.drawn(NONE), 3);
    Checks.due(48, "where he stood", x.drawn(0), 0);
  }

  private static void drawnWalkers() {
    HornMaze x = Checks.maze(12, 1);
    Checks.leads(x, 0, 1, 2, 3, 4, 5, 6, 7, 8, 9, 10, 11, 0);
    for (int i = 0; i < 11; i++) {
      x.walker(i, i % 2);
    }
    x.image(0);
    x.walker(11, 1);
    x.hear(1, 0, NONE);
    Checks.due(48, "ahead of any horn", x.drawn(0), NONE);
    Checks.due(48, "doors ahead of any horn", x.drawn(NONE), NONE);
    x.horn(0, 200);
    Checks.due(48, "drawn(0): 200 steps", x.drawn(0), 200 % 12);
    Checks.due(48, "drawn(10)", x.drawn(10), 210 % 12);
    Checks.due(48, "drawn(11) does not hear", x.drawn(11), 11);
    for (int walker : new int[] {12, -2, MAX, MIN}) {
      Checks.due(48, "drawn(" + walker + ")", x.drawn(walker), NONE);
    }
    Checks.due(45, "he is where he was", x.where(0), 0);
    x.say(0);
    Checks.due(48, "the latest horn stays", x.drawn(0), 200 % 12);
    x.back(0);
    Checks.due(48, "images do not keep it", x.drawn(0), 200 % 12);
    x.horn(0, 1);
    Checks.due(48, "the latest one", x.drawn(0), 1);
    Checks.due(48, "of eleven walkers", x.drawn(11), NONE);
  }

  /** "IMAGES 0, 1"; "-2 it was not kept"; "(IMAGES stay)". */
  private static void images() {
    HornMaze x = new HornMaze();
    for (int k : new int[] {-1, 2, MAX, MIN}) {
      Checks.due(49, "image(" + k + ")", x.image(k), -1);
      Checks.due(50, "back(" + k + ")", x.back(k), -1);
    }
    Checks.due(50, "back(0)", x.back(0), -2);
    Checks.due(50, "back(1)", x.back(1), -2);
    x.doors(1);
    Checks.due(49, "image(1)", x.image(1), 0);
    Checks.due(50, "back(0) then", x.back(0), -2);
    x.doors(2);
    Checks.due(50, "back(1) then", x.back(1), 0);
    Checks.due(50, "doors of image 1", x.count(13), 1);
    x.doors(3);
    Checks.due(49, "image(0)", x.image(0), 0);
    x.doors(4);
    Checks.due(50, "back(1) again", x.back(1), 0);
    Checks.due(50, "it stays", x.count(13), 1);
    Checks.due(50, "back(0) at last", x.back(0), 0);
    Checks.due(50, "doors of image 0", x.count(13), 3);
    Checks.due(49, "image(1) anew", x.image(1), 0);
    x.doors(0);
    x.back(1);
    Checks.due(49, "it is the new one", x.count(13), 3);
    Checks.due(50, "back twice", x.back(1) + x.count(13), 3);
  }

  /** BACK from what is full to what is empty and the other way, with all that has a limit. */
  private static void backFromFull() {
    HornMaze x = new HornMaze();
    x.image(0);
    for (int i = 0; i < 12; i++) {
      x.place(3);
      x.word(7, 0);
      x.walker(i, 1);
      x.hold(i * 300);
    }
    for (int i = 0; i < 60; i++) {
      x.call(7);
    }
    for (int i = 0; i < 6; i++) {
      Checks.law(x, "leads " + i);
    }
    x.force(5);
    x.doors(6);
    x.image(1);
    x.back(0);
    for (int what : new int[] {0, 1, 2, 3, 4, 5, 13}) {
      Checks.due(50, "count(" + what + ") of the empty one", x.count(what), 0);
    }
    Checks.due(50, "count(12) of the empty one", x.count(12), NONE);
    Checks.due(50, "no place", x.goes(0, 0, 0, 0), NONE);
    Checks.due(50, "no walker", x.where(0), NONE);
    Checks.due(50, "no set", x.held(0), 0);
    Checks.due(50, "no row", x.open(1), NONE);
    Checks.due(50, "there is room again", x.place(0) + x.word(0, 0) + x.walker(0, 0) + x.call(0), 1);
    x.back(1);
    int[] full = {12, 8, 6, 60, 12, 12};
    for (int what = 0; what < full.length; what++) {
      Checks.due(50, "count(" + what + ") of the full one", x.count(what), full[what]);
    }
    Checks.due(50, "count(12) of the full one", x.count(12), 5);
    Checks.due(50, "count(13) of the full one", x.count(13), 6);
    Checks.due(50, "its law", x.goes(1, 7, 11, 0), 5);
    Checks.due(50, "its row", x.open(60), 7);
    Checks.due(50, "its walkers", x.where(11), 11);
    Checks.due(50, "its store", x.kth(11), 3300);
    Checks.due(50, "it is full", x.place(0), -5);
    Checks.due(50, "of words", x.word(0, 0), -5);
    Checks.due(50, "of walkers", x.walker(0, 0), -5);
    Checks.due(50, "of calls", x.call(0), -5);
    Checks.due(50, "of laws", x.law(), -5);
  }

  /** "NONE for others"; refused calls are counted by each reason, and images do not keep that. */
  private static void counts() {
    HornMaze x = Checks.maze(1, 1);
    Checks.due(51, "count(-1)", x.count(-1), NONE);
    Checks.due(51, "count(14)", x.count(14), NONE);
    Checks.due(51, "count(MAX)", x.count(MAX), NONE);
    Checks.due(51, "count(MIN)", x.count(MIN), NONE);
    x.image(0);
    x.place(4);
    int[] due = {1, 0, 0, 0, 0};
    refusals(x, due);
    x.say(1);
    x.say(2);
    due[1] = 2;
    refusals(x, due);
    for (int i = 1; i <= 3; i++) {
      x.drop(i);
    }
    due[2] = 3;
    refusals(x, due);
    for (int i = 0; i < 11; i++) {
      x.place(0);
    }
    for (int i = 0; i < 4; i++) {
      x.place(0);
    }
    due[3] = 4;
    refusals(x, due);
    for (int i = 0; i < 5; i++) {
      x.row(0);
    }
    due[4] = 5;
    refusals(x, due);
    x.back(0);
    refusals(x, due);
    x.back(1);
    due[1]++;
    refusals(x, due);
  }

  private static void refusals(HornMaze x, int[] due) {
    for (int i = 0; i < due.length; i++) {
      Checks.due(51, "count(" + (7 + i) + ")", x.count(7 + i), due[i]);
    }
  }

  /** "0 if it was not, or ahead of any": behind each of the calls that it tells of. */
  private static void status() {
    HornMaze x = Checks.maze(2, 1);
    Checks.due(52, "ahead of any", new HornMaze().status(), 0);
    java.util.function.IntSupplier[] calls = {() -> x.place(0), () -> x.place(4), () -> x.paint(0, 1),
        () -> x.paint(0, 4), () -> x.paint(9, 0), () -> x.word(0, 0), () -> x.word(8, 0), () -> x.lead(0, 0, 0),
        () -> x.lead(9, 0, 0), () -> x.hear(0, 0, 0), () -> x.hear(2, 0, 0), () -> x.hear(0, 9, 0), () -> x.doors(0),
        () -> x.doors(8), () -> x.row(9), () -> x.row(0), () -> x.law(), () -> x.force(0), () -> x.force(NONE) + 1,
        () -> x.force(7), () -> x.call(0), () -> x.call(9), () -> x.hold(5), () -> x.hold(4096), () -> x.drop(5),
        () -> x.drop(5), () -> x.drop(4096), () -> x.walker(0, 0), () -> x.walker(0, 2), () -> x.walker(9, 0),
        () -> x.say(0), () -> x.say(9), () -> x.horn(0, 1), () -> x.horn(0, 201), () -> x.image(0), () -> x.image(2),
        () -> x.back(0), () -> x.back(1), () -> x.back(2)};
    for (int i = 0; i < calls.length; i++) {
      int answer = calls[i].getAsInt();
      Checks.due(52, "behind call " + i, x.status(), Math.min(answer, 0));
      x.tear();
      x.feed(0, 0, 0, 0, 0);
      x.end(0);
      x.end(1);
      x.count(99);
      Checks.due(52, "behind call " + i + " and others", x.status(), Math.min(answer, 0));
    }
  }

  public static void main(String[] args) {
    sets();
    full();
    order();
    about();
    near();
    walkers();
    horns();
    barredHorns();
    drawnWalkers();
    images();
    backFromFull();
    counts();
    status();
    Checks.end();
  }
}
