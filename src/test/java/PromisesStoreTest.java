/** Promises 36 to 52: the store, walkers, the horn, images, counts. */
public final class PromisesStoreTest {
  private static final int NONE = Checks.NONE;
  private static final int MAX = Checks.MAX;
  private static final int MIN = Checks.MIN;
  private static final int[] BAD_SETS = {-1, 4096, MAX, MIN};

  private static HornMaze holding(int... sets) {
    HornMaze x = new HornMaze();
    for (int set : sets) {
      x.hold(set);
    }
    return x;
  }

  private static void promises36To38() {
    HornMaze x = new HornMaze();
    for (int set : BAD_SETS) {
      Checks.refused(36, "hold(" + set + ")", x, () -> x.hold(set), -1);
      Checks.refused(37, "drop(" + set + ")", x, () -> x.drop(set), -1);
      Checks.due(38, "held(" + set + ")", x.held(set), NONE);
    }
    Checks.due(36, "hold(0)", x.hold(0), 1);
    Checks.due(36, "hold(4095)", x.hold(4095), 1);
    Checks.due(36, "hold(0) again", x.hold(0), 2);
    Checks.due(38, "held(0)", x.held(0), 2);
    Checks.due(38, "held(4095)", x.held(4095), 1);
    Checks.due(38, "held(1)", x.held(1), 0);
    Checks.due(37, "drop(0)", x.drop(0), 1);
    Checks.due(38, "held(0) then", x.held(0), 1);
    Checks.due(37, "drop(0) again", x.drop(0), 0);
    Checks.due(38, "held(0) at last", x.held(0), 0);
    Checks.refused(37, "drop(0), which is not in it", x, () -> x.drop(0), -3);
    Checks.refused(37, "drop(7), which never was", x, () -> x.drop(7), -3);
    Checks.due(36, "hold(0) once more", x.hold(0), 1);
  }

  private static void promise36Full() {
    HornMaze x = new HornMaze();
    for (int i = 0; i < 100; i++) {
      Checks.due(36, "hold " + i, x.hold(4000 - 7 * i), 1);
      Checks.due(36, "hold 5 " + i, x.hold(5), i + 1);
    }
    Checks.due(36, "count(4)", x.count(4), 200);
    Checks.refused(36, "one too many", x, () -> x.hold(5), -5);
    Checks.refused(36, "one too many that can't be", x, () -> x.hold(4096), -1);
    Checks.due(39, "how many sets", x.kth(-1), 101);
    Checks.due(37, "drop(5)", x.drop(5), 99);
    Checks.due(36, "there is room again", x.hold(4001), 1);
    HornMaze y = new HornMaze();
    for (int i = 0; i < 200; i++) {
      y.hold(199 - i);
    }
    Checks.refused(36, "a 201st", y, () -> y.hold(300), -5);
    for (int i = 0; i < 200; i += 13) {
      Checks.due(39, "kth(" + i + ") of 200", y.kth(i), i);
    }
  }

  private static void promises39And40() {
    HornMaze x = holding(9, 5, 5, 13);
    int[] sets = {5, 9, 13};
    Checks.due(39, "kth(-1)", x.kth(-1), 3);
    for (int i = 0; i < 3; i++) {
      Checks.due(39, "kth(" + i + ")", x.kth(i), sets[i]);
      Checks.due(40, "rank(" + sets[i] + ")", x.rank(sets[i]), i);
      Checks.due(40, "rank(" + (sets[i] + 1) + ")", x.rank(sets[i] + 1), i + 1);
    }
    for (int i : new int[] {3, -2, MAX, MIN}) {
      Checks.due(39, "kth(" + i + ")", x.kth(i), NONE);
    }
    Checks.due(40, "rank(0)", x.rank(0), 0);
    Checks.due(40, "rank(4095)", x.rank(4095), 3);
    for (int set : BAD_SETS) {
      Checks.due(40, "rank(" + set + ")", x.rank(set), NONE);
    }
    x.drop(9);
    Checks.due(39, "kth(1) without 9", x.kth(1), 13);
    Checks.due(39, "kth(-1) of nothing", new HornMaze().kth(-1), 0);
    Checks.due(39, "kth(0) of nothing", new HornMaze().kth(0), NONE);
  }

  private static void promises41To43() {
    HornMaze x = holding(5, 9, 5, 13, 48);
    int[][] abouts = {{13, 0, 3}, {12, 0, 0}, {5, 0, 1}, {4095, 0, 4}, {1, 1, 3}, {8, 1, 2}, {0, 1, 4}, {5, 1, 2},
        {2, 1, 0}, {8, 2, 9}, {4, 2, 5}, {12, 2, 13}, {0, 2, 5}, {2, 2, NONE}, {13, 2, 13}, {5, 3, NONE},
        {5, -1, NONE}, {5, MAX, NONE}, {16, 2, 48}};
    for (int[] n : abouts) {
      Checks.due(41, "about(" + n[0] + ", " + n[1] + ")", x.about(n[0], n[1]), n[2]);
    }
    int[][] nears = {{4, 5, 1}, {8, 9, 1}, {15, 13, 1}, {6, 5, 2}, {13, 13, 0}, {1, 5, 1}, {4095, 13, 9}, {0, 5, 2},
        {112, 48, 1}};
    for (int[] n : nears) {
      Checks.due(42, "near(" + n[0] + ", 0)", x.near(n[0], 0), n[1]);
      Checks.due(42, "near(" + n[0] + ", 1)", x.near(n[0], 1), n[2]);
    }
    Checks.due(42, "near(4, 2)", x.near(4, 2), NONE);
    Checks.due(42, "near(4, -1)", x.near(4, -1), NONE);
    int[][] betweens = {{5, 9, 2}, {6, 8, 0}, {9, 4095, 3}, {0, 4095, 4}, {5, 5, 1}, {9, 5, NONE}, {6, 13, 2}};
    for (int[] n : betweens) {
      Checks.due(43, "between(" + n[0] + ", " + n[1] + ")", x.between(n[0], n[1]), n[2]);
    }
    for (int set : BAD_SETS) {
      for (int what = 0; what < 3; what++) {
        Checks.due(41, "about(" + set + ", " + what + ")", x.about(set, what), NONE);
        Checks.due(42, "near(" + set + ", " + what + ")", x.near(set, what), NONE);
      }
      Checks.due(43, "between(" + set + ", 5)", x.between(set, 5), NONE);
      Checks.due(43, "between(5, " + set + ")", x.between(5, set), NONE);
    }
    HornMaze empty = new HornMaze();
    Checks.due(42, "near of nothing", empty.near(5, 0), NONE);
    Checks.due(42, "near of nothing, bits", empty.near(5, 1), NONE);
    Checks.due(41, "about of nothing", empty.about(5, 0), 0);
    Checks.due(41, "about of nothing, the lowest", empty.about(5, 2), NONE);
    Checks.due(43, "between of nothing", empty.between(0, 4095), 0);
    Checks.due(43, "both are counted", holding(0, 4095).between(0, 4095), 2);
    Checks.due(42, "the empty set is a set", holding(0).near(0, 0), 0);
    Checks.due(42, "no bit is another", holding(0).near(0, 1), 0);
  }

  private static void promises44To46() {
    HornMaze x = Checks.maze(3, 2);
    Checks.leads(x, 0, 1, 2, 2);
    Checks.due(46, "nobody is there", x.say(1), 0);
    Checks.refused(44, "walker(0, 2)", x, () -> x.walker(0, 2), -1);
    Checks.refused(44, "walker(9, -1): -1 comes ahead", x, () -> x.walker(9, -1), -1);
    Checks.refused(44, "walker(3, 0)", x, () -> x.walker(3, 0), -2);
    Checks.refused(44, "walker(-1, 0)", x, () -> x.walker(-1, 0), -2);
    Checks.due(44, "the first", x.walker(0, 0), 0);
    Checks.due(44, "the second", x.walker(0, 1), 1);
    Checks.due(44, "the third", x.walker(2, 1), 2);
    x.hear(1, 0, NONE);
    Checks.due(45, "where(2)", x.where(2), 2);
    Checks.due(46, "in three places", x.say(0), 3);
    Checks.due(45, "where(0)", x.where(0), 1);
    Checks.due(45, "where(1)", x.where(1), 0);
    Checks.due(46, "in two places", x.say(0), 2);
    for (int walker : new int[] {3, -1, MAX, MIN}) {
      Checks.due(45, "where(" + walker + ")", x.where(walker), NONE);
    }
    Checks.refused(46, "say(2)", x, () -> x.say(2), -2);
    Checks.refused(46, "say(-1)", x, () -> x.say(-1), -2);
    for (int i = 3; i < 12; i++) {
      Checks.due(44, "walker " + i, x.walker(1, 0), i);
    }
    Checks.refused(44, "a 13th", x, () -> x.walker(1, 0), -5);
    Checks.refused(44, "a 13th nowhere", x, () -> x.walker(3, 0), -2);
    Checks.due(44, "count(5)", x.count(5), 12);
  }

  private static void promise46Doors() {
    HornMaze x = Checks.maze(2, 0);
    x.word(1, 0);
    x.word(4, 1);
    x.walker(0, 0);
    Checks.enforce(x, "barred if word = 1 and north = 0; leads 1 if north = 1");
    Checks.refused(46, "barred", x, () -> x.say(1), -3);
    Checks.due(46, "the doors stay", x.count(13), 0);
    Checks.due(46, "the door is moved behind the walk", x.say(0) * 10 + x.where(0), 10);
    Checks.due(46, "count(13)", x.count(13), 1);
    Checks.due(46, "word 1", x.say(1), 1);
    Checks.due(45, "where(0)", x.where(0), 1);
    Checks.due(46, "it opens 2, shuts 0", x.count(13), 4);
    Checks.refused(46, "no such word comes ahead of barred", x, () -> x.say(2), -2);
  }

  private static void promises47And48() {
    HornMaze x = Checks.maze(5, 0);
    x.word(1, 0);
    x.word(2, 1);
    x.word(0, 2);
    Checks.leads(x, 0, 1, 2, 3, 4, 0);
    Checks.leads(x, 1, 4, 0, 1, 2, 3);
    Checks.leads(x, 2, 2, 2, 2, 2, 2);
    x.walker(0, 0);
    x.walker(3, 1);
    x.hear(1, 2, NONE);
    int[][] bad = {{-1, 0}, {1000001, 0}, {0, -1}, {0, 201}, {MAX, MAX}, {MIN, MIN}};
    for (int[] n : bad) {
      Checks.refused(47, "horn(" + n[0] + ", " + n[1] + ")", x, () -> x.horn(n[0], n[1]), -1);
    }
    Checks.due(48, "drawn(-1) ahead of any", x.drawn(-1), NONE);
    Checks.due(48, "drawn(0) ahead of any", x.drawn(0), NONE);
    for (int n : new int[] {0, 1, 2, 3, 10, 200}) {
      for (int seed : new int[] {0, 1, 999, 1000000}) {
        hornIsSaid(x, seed, n);
      }
    }
    Checks.due(47, "nobody walked", x.where(0) * 10 + x.where(1), 3);
    Checks.due(47, "no door moved", x.count(13), 0);
    Checks.due(48, "drawn(2)", x.drawn(2), NONE);
    Checks.due(48, "drawn(-2)", x.drawn(-2), NONE);
    x.walker(1, 0);
    Checks.due(48, "who came later", x.drawn(2), NONE);
    x.horn(5, 0);
    int refusedLater = x.horn(-1, 3);
    Checks.due(48, "a refused one is not the latest", x.drawn(2) + refusedLater, 0);
    Checks.due(48, "the doors of a horn of none", x.doors(6) + x.horn(0, 0) + x.drawn(-1), 6);
  }

  /** Says the words on another object that the document's s draws, without a law. */
  private static void hornIsSaid(HornMaze x, int seed, int n) {
    HornMaze y = Checks.maze(5, 0);
    y.word(1, 0);
    y.word(2, 1);
    y.word(0, 2);
    Checks.leads(y, 0, 1, 2, 3, 4, 0);
    Checks.leads(y, 1, 4, 0, 1, 2, 3);
    Checks.leads(y, 2, 2, 2, 2, 2, 2);
    y.walker(0, 0);
    y.walker(3, 1);
    y.hear(1, 2, NONE);
    long s = seed;
    for (int i = 0; i < n; i++) {
      s = (s * 1103 + 12345) % 1000003;
      y.say((int) (s % 3));
    }
    String name = "horn(" + seed + ", " + n + ")";
    Checks.due(47, name, x.horn(seed, n), n);
    Checks.due(48, name + ": drawn(0)", x.drawn(0), y.where(0));
    Checks.due(48, name + ": drawn(1)", x.drawn(1), y.where(1));
    Checks.due(48, name + ": drawn(-1)", x.drawn(-1), y.count(13));
  }

  private static void promise47Barred() {
    HornMaze x = Checks.maze(3, 0);
    x.walker(0, 0);
    Checks.due(47, "no words: it ends", x.horn(7, 5), 0);
    Checks.due(48, "where he was", x.drawn(0), 0);
    x.word(1, 0);
    x.word(2, 0);
    x.word(4, 0);
    Checks.enforce(x, "barred if word = 0 and north = 1 or word = 1 and east = 1 or word = 2 and west = 1; "
        + "leads place + 1 if place < 2");
    // s: 12345, 628841, 621889 (of 3, 2, 1 words the one by 0, 1, 0)
    Checks.due(47, "each but once", x.horn(0, 200), 3);
    Checks.due(48, "the doors", x.drawn(-1), 7);
    Checks.due(48, "the walker", x.drawn(0), 2);
    Checks.due(47, "the first", x.horn(0, 1), 1);
    Checks.due(48, "word 0 of three", x.drawn(-1), 1);
    Checks.due(47, "two", x.horn(0, 2), 2);
    Checks.due(48, "word 2 of 1 and 2", x.drawn(-1), 5);
    x.doors(7);
    Checks.due(47, "all barred", x.horn(0, 200), 0);
  }

  private static void promises49And50() {
    HornMaze x = Checks.maze(2, 1);
    for (int k : new int[] {-1, 2, MAX, MIN}) {
      Checks.refused(49, "image(" + k + ")", x, () -> x.image(k), -1);
      Checks.refused(50, "back(" + k + ")", x, () -> x.back(k), -1);
    }
    Checks.refused(50, "back(0), not kept", x, () -> x.back(0), -2);
    Checks.due(49, "image(0)", x.image(0), 0);
    Checks.refused(50, "back(1), not kept", x, () -> x.back(1), -2);
    Checks.law(x, "leads 1");
    Checks.enforce(x, "leads 0; barred if word = 1");
    x.place(3);
    x.word(1, 2);
    x.paint(0, 2);
    x.lead(0, 1, 2);
    x.hear(1, 0, NONE);
    x.doors(5);
    x.call(0);
    x.call(1);
    x.hold(9);
    x.hold(9);
    x.walker(2, 1);
    Checks.due(49, "image(1)", x.image(1), 0);
    Checks.due(50, "back(0)", x.back(0), 0);
    int[] empty = {2, 1, 0, 0, 0, 0, 0};
    for (int what = 0; what < 6; what++) {
      Checks.due(50, "count(" + what + ") then", x.count(what), empty[what]);
    }
    Checks.due(50, "the law in force", x.count(12), NONE);
    Checks.due(50, "the doors", x.count(13), 0);
    Checks.due(50, "leads", x.goes(0, 0, 1, 0), 1);
    Checks.due(50, "hears", x.hear(1, 0, 0), 0);
    Checks.due(50, "colours", x.paint(0, 1), 0);
    Checks.due(50, "kth(-1)", x.kth(-1), 0);
    x.hold(1);
    x.walker(0, 0);
    Checks.due(50, "back(1)", x.back(1), 0);
    int[] full = {3, 2, 2, 2, 2, 1};
    for (int what = 0; what < 6; what++) {
      Checks.due(50, "count(" + what + ") of image 1", x.count(what), full[what]);
    }
    Checks.due(50, "the law in force of image 1", x.count(12), 1);
    Checks.due(50, "the doors of image 1", x.count(13), 5);
    Checks.due(50, "its law", x.barred(1, 0), 1);
    Checks.due(50, "its leads", x.force(NONE) + x.goes(0, 0, 1, 0), 3);
    Checks.due(50, "its first law", x.force(0) + 1 + x.goes(0, 0, 0, 0), 1);
    Checks.due(50, "its ears", x.hear(1, 0, 0), NONE);
    Checks.due(50, "its colours", x.paint(0, 1), 2);
    Checks.due(50, "its row", x.force(NONE) * 10 + x.open(2), 5);
    Checks.due(50, "its store", x.held(9), 2);
    Checks.due(50, "its walkers", x.where(0), 2);
    Checks.due(50, "back(0) again: images stay", x.back(0) + x.count(0), 2);
    Checks.due(50, "the object's changes are not the image's", x.paint(0, 0), 0);
  }

  private static void promise50Kept() {
    HornMaze x = Checks.maze(3, 1);
    Checks.leads(x, 0, 1, 2, 2);
    x.walker(0, 0);
    x.image(0);
    Checks.feed(x, "\1\t");
    x.row(0);
    Checks.feed(x, "leads x");
    x.law();
    x.horn(3, 1);
    int refusedOnes = x.place(4);
    Checks.feed(x, "abc");
    Checks.due(50, "back(0)", x.back(0), 0);
    Checks.due(50, "the tape is not kept", x.count(6), 3);
    Checks.due(50, "stray is not kept", x.stray(), 1);
    Checks.due(50, "fault is not kept", x.fault(), 6);
    Checks.due(50, "the latest horn is not kept", x.drawn(0), 1);
    Checks.due(51, "refusals are not kept", x.count(7), -refusedOnes);
    Checks.due(51, "refusals by -6 are not kept", x.count(11), 1);
    Checks.due(50, "searches hear of it: ahead", x.fewest(1, 7, NONE), 2);
    x.lead(0, 0, 2);
    Checks.due(50, "searches hear of it: otherwise", x.fewest(1, 7, NONE), 1);
    Checks.due(50, "pairs: otherwise", x.farthest(0), 1);
    Checks.due(50, "sights: otherwise", x.sight(7), 1);
    x.back(0);
    Checks.due(50, "searches hear of it: back", x.fewest(1, 7, NONE), 2);
    Checks.due(50, "pairs: back", x.farthest(0), 2);
    Checks.due(50, "sights: back", x.sight(7), 2);
    Checks.due(49, "an image is kept anew", x.doors(3) + x.image(0) + x.doors(0) + x.back(0) + x.count(13), 6);
  }

  private static void promise50Laws() {
    HornMaze x = Checks.maze(4, 1);
    x.image(0);
    Checks.enforce(x, "leads 1");
    Checks.enforce(x, "leads 2");
    x.image(1);
    x.back(0);
    Checks.enforce(x, "leads 3");
    Checks.due(50, "another law 0", x.goes(0, 0, 0, 0), 3);
    x.back(1);
    Checks.due(50, "law 1 of image 1", x.goes(0, 0, 0, 0), 2);
    x.force(0);
    Checks.due(50, "law 0 of image 1", x.goes(0, 0, 0, 0), 1);
  }

  private static void promise51() {
    HornMaze x = Checks.maze(2, 1);
    x.word(8, 0);
    x.place(9);
    x.lead(5, 0, 0);
    x.drop(3);
    x.row(0);
    x.law();
    x.law();
    x.call(0);
    x.call(0);
    x.hold(6);
    x.hold(6);
    x.hold(7);
    x.walker(1, 1);
    x.doors(6);
    Checks.enforce(x, "leads 1");
    x.feed(0, 0, 0, 0, 0);
    for (int i = 0; i < 61; i++) {
      x.call(0);
    }
    int[] want = {2, 1, 1, 60, 3, 1, 20, 2, 1, 1, 3, 3, 0, 6};
    for (int what = 0; what < want.length; what++) {
      Checks.due(51, "count(" + what + ")", x.count(what), want[what]);
    }
    for (int what : new int[] {-1, 14, MAX, MIN}) {
      Checks.due(51, "count(" + what + ")", x.count(what), NONE);
    }
    x.force(NONE);
    Checks.due(51, "count(12) without a law", x.count(12), NONE);
  }

  private static void promise52() {
    HornMaze x = new HornMaze();
    Checks.due(52, "ahead of any", x.status(), 0);
    x.place(7);
    Checks.due(52, "refused by -1", x.status(), -1);
    x.fewest(9, 9, 9);
    x.feed(0, 0, 0, 0, 0);
    x.end(5);
    x.end(-5);
    x.goes(9, 9, 9, 9);
    x.kth(99);
    x.tear();
    x.count(0);
    Checks.due(52, "other calls change nothing", x.status(), -1);
    x.place(0);
    Checks.due(52, "not refused", x.status(), 0);
    x.row(0);
    Checks.due(52, "row: -2", x.status(), -2);
    x.law();
    Checks.due(52, "law: -6", x.status(), -6);
    x.drop(0);
    Checks.due(52, "drop: -3", x.status(), -3);
    x.force(NONE);
    Checks.due(52, "an answer of NONE that is no refusal", x.status(), 0);
    java.util.function.IntSupplier[] good = {() -> x.paint(0, 1), () -> x.word(0, 0), () -> x.lead(0, 0, 0),
        () -> x.hear(0, 0, NONE), () -> x.hear(0, 0, 0), () -> x.doors(0), () -> x.feed(0, 0, 0, 0, 0) + x.row(0),
        () -> Checks.law(x, "barred if 1 = 2"), () -> x.force(0), () -> x.call(0), () -> x.hold(0), () -> x.drop(0),
        () -> x.walker(0, 0), () -> x.say(0), () -> x.horn(0, 0), () -> x.image(0), () -> x.back(0)};
    for (int i = 0; i < good.length; i++) {
      x.place(7);
      good[i].getAsInt();
      Checks.due(52, "0 behind good call " + i, x.status(), 0);
    }
  }

  public static void main(String[] args) {
    promises36To38();
    promise36Full();
    promises39And40();
    promises41To43();
    promises44To46();
    promise46Doors();
    promises47And48();
    promise47Barred();
    promises49And50();
    promise50Kept();
    promise50Laws();
    promise51();
    promise52();
    Checks.end();
  }
}
