/** Promises 19 to 35: sets behind words, the fewest words, pairs, sights. */
public final class PromisesWordsTest {
  private static final int NONE = Checks.NONE;
  private static final int MAX = Checks.MAX;
  private static final int MIN = Checks.MIN;

  /** Mixes and sets that can't be, in a maze of 4 places. */
  private static final int[][] BAD_SETS = {{0, 1}, {4, 1}, {-1, 1}, {1, -1}, {1, 16}, {2, 16}, {1, 4096}, {3, 16},
      {3, 1024}, {3, 4096}, {3, -1}, {MAX, MAX}, {1, MIN}, {3, MIN}};

  private static void promises19And20() {
    HornMaze x = Checks.maze(4, 0);
    x.word(1, 0);
    x.word(2, 1);
    Checks.leads(x, 0, 1, 2, 3, 0);
    Checks.leads(x, 1, 1, 1, 2, 3);
    Checks.call(x, 0, 1);
    x.doors(4);
    Checks.due(19, "after(1, 5, 0)", x.after(1, 5, 0), 5);
    Checks.due(19, "after(1, 5, 1)", x.after(1, 5, 1), 10);
    Checks.due(19, "after(1, 9, 2)", x.after(1, 9, 2), 2);
    Checks.due(19, "after(1, 0, 2)", x.after(1, 0, 2), 0);
    Checks.due(19, "after(2, 9, 2)", x.after(2, 9, 2), 2);
    Checks.due(19, "after(1, 5, 3)", x.after(1, 5, 3), NONE);
    Checks.due(19, "after(1, 5, -1)", x.after(1, 5, -1), NONE);
    Checks.due(20, "open(0)", x.open(0), 4);
    Checks.due(20, "open(1)", x.open(1), 5);
    Checks.due(20, "open(2)", x.open(2), 6);
    Checks.due(20, "open(3)", x.open(3), NONE);
    Checks.due(20, "open(-1)", x.open(-1), NONE);
    Checks.due(20, "the doors stay", x.count(13), 4);
    for (int[] bad : BAD_SETS) {
      Checks.due(19, "after(" + bad[0] + ", " + bad[1] + ", 0)", x.after(bad[0], bad[1], 0), NONE);
    }
    Checks.enforce(x, "barred if word = 1 and north = 1 and place = 0; leads 0 if west = 0");
    Checks.due(19, "a barred one among them", x.after(1, 5, 2), NONE);
    Checks.due(20, "a barred one among them", x.open(2), NONE);
    Checks.due(19, "it stands behind", x.after(1, 5, 1), 10);
    x.doors(0);
    Checks.due(19, "the law with doors as they are", x.after(1, 15, 1), 1);
    Checks.due(20, "open(1) from doors 0", x.open(1), 1);
  }

  private static void promise19Mixes() {
    HornMaze x = Checks.maze(6, 2);
    Checks.leads(x, 0, 1, 2, 3, 4, 5, 0);
    x.hear(1, 0, NONE);
    Checks.call(x, 0);
    Checks.due(19, "each kind hears for itself", x.after(3, 1 | 64 * 33, 1), 2 | 64 * 33);
    Checks.due(19, "kind 0", x.after(1, 33, 1), 3);
    Checks.due(19, "kind 1", x.after(2, 33, 1), 33);
    Checks.due(19, "all of both", x.after(3, 4095, 1), 4095);
    for (int mix = 1; mix <= 3; mix++) {
      Checks.due(19, "an empty set without places", new HornMaze().after(mix, 0, 0), 0);
      Checks.due(19, "a set without places", new HornMaze().after(mix, 1, 0), NONE);
    }
    x.place(0);
    Checks.due(19, "a mix 3 with 7 places", x.after(3, 1, 1), NONE);
    Checks.due(19, "a seventh place", x.after(1, 64, 1), 64);
    x.lead(0, 6, 0);
    Checks.due(19, "led elsewhere", x.after(1, 64 | 2, 1), 5);
  }

  private static void promises21To23() {
    HornMaze x = Checks.cerny(4);
    Checks.due(21, "fewest(1, 15, NONE)", x.fewest(1, 15, NONE), 9);
    Checks.due(21, "fewest(1, 15, 1)", x.fewest(1, 15, 1), 9);
    Checks.due(21, "fewest(1, 15, 0)", x.fewest(1, 15, 0), 12);
    Checks.due(22, "ways(1, 15, NONE)", x.ways(1, 15, NONE), 1);
    int[] row = {1, 0, 0, 0, 1, 0, 0, 0, 1};
    for (int i = 0; i < row.length; i++) {
      Checks.due(23, "spell " + i, x.spell(1, 15, NONE, i), row[i]);
    }
    Checks.due(23, "spell beyond", x.spell(1, 15, NONE, 9), NONE);
    Checks.due(23, "spell(-1)", x.spell(1, 15, NONE, -1), NONE);
    Checks.due(23, "spell(MAX)", x.spell(1, 15, NONE, MAX), NONE);
    Checks.due(23, "spell(MIN)", x.spell(1, 15, NONE, MIN), NONE);
    Checks.due(21, "a single place anywhere", x.fewest(1, 4, NONE), 0);
    Checks.due(22, "one way without words", x.ways(1, 4, NONE), 1);
    Checks.due(23, "no word of none", x.spell(1, 4, NONE, 0), NONE);
    Checks.due(21, "a single place to itself", x.fewest(1, 4, 2), 0);
    Checks.due(21, "a single place to another", x.fewest(1, 4, 1), 3);
    Checks.due(21, "an empty set", x.fewest(1, 0, NONE), NONE);
    Checks.due(22, "an empty set", x.ways(1, 0, NONE), 0);
    Checks.due(23, "an empty set", x.spell(1, 0, NONE, 0), NONE);
    Checks.due(21, "an empty set to a place", x.fewest(1, 0, 1), NONE);
    for (int[] bad : BAD_SETS) {
      Checks.due(21, "fewest(" + bad[0] + ", " + bad[1] + ")", x.fewest(bad[0], bad[1], NONE), NONE);
      Checks.due(22, "ways(" + bad[0] + ", " + bad[1] + ")", x.ways(bad[0], bad[1], NONE), NONE);
      Checks.due(23, "spell(" + bad[0] + ", " + bad[1] + ")", x.spell(bad[0], bad[1], NONE, 0), NONE);
    }
    for (int to : new int[] {4, -2, MAX, MIN}) {
      Checks.due(21, "fewest to " + to, x.fewest(1, 15, to), NONE);
      Checks.due(22, "ways to " + to, x.ways(1, 15, to), NONE);
      Checks.due(23, "spell to " + to, x.spell(1, 15, to, 0), NONE);
    }
  }

  private static void promises21And22Doors() {
    HornMaze x = Checks.maze(3, 0);
    x.word(1, 0);
    x.word(0, 1);
    Checks.enforce(x, "leads place + 1 if north = 1 and place < 2; barred if word = 1 and north = 0");
    Checks.due(21, "a door first", x.fewest(1, 7, NONE), 3);
    Checks.due(22, "the last word is free", x.ways(1, 7, NONE), 2);
    Checks.due(23, "the first of these", x.spell(1, 7, NONE, 2), 0);
    x.doors(1);
    Checks.due(21, "with the door open", x.fewest(1, 7, NONE), 2);
    Checks.due(21, "nothing is said", x.count(13), 1);
    x.force(NONE);
    Checks.due(21, "without a law never", x.fewest(1, 7, NONE), NONE);
    Checks.due(22, "without a law never", x.ways(1, 7, NONE), 0);
    Checks.due(23, "without a law never", x.spell(1, 7, NONE, 0), NONE);
    Checks.due(21, "to a place that can't be come to", x.fewest(1, 1, 2), NONE);
  }

  private static void promises21To23Mix3() {
    HornMaze x = Checks.maze(3, 2);
    Checks.leads(x, 0, 1, 1, 2);
    Checks.leads(x, 1, 0, 2, 2);
    Checks.due(21, "both kinds in one place", x.fewest(3, 65, NONE), 0);
    Checks.due(21, "both kinds in that place", x.fewest(3, 65, 0), 0);
    Checks.due(21, "both kinds to another", x.fewest(3, 65, 2), 2);
    Checks.due(21, "kind 1 alone", x.fewest(3, 128, 1), 0);
    Checks.due(21, "apart", x.fewest(3, 1 | 128, NONE), 1);
    Checks.due(23, "by word 0", x.spell(3, 1 | 128, NONE, 0), 0);
    x.hear(1, 0, 1);
    x.hear(1, 1, NONE);
    Checks.due(21, "kind 1 hears otherwise", x.fewest(3, 1 | 128, NONE), 2);
    Checks.due(22, "how many ways", x.ways(3, 1 | 128, NONE), 1);
    Checks.due(23, "the first", x.spell(3, 1 | 128, NONE, 0), 0);
    Checks.due(23, "the second", x.spell(3, 1 | 128, NONE, 1), 1);
    Checks.due(21, "a mix 2 hears as kind 1", x.fewest(2, 6, NONE), 1);
    Checks.due(21, "it never leaves place 0", x.fewest(2, 3, NONE), NONE);
  }

  /** Many alike words, so that the ways soon are more than can be told. */
  private static void promise22Most() {
    HornMaze x = Checks.maze(12, 8);
    for (int word = 0; word < 8; word++) {
      for (int place = 0; place < 11; place++) {
        x.lead(word, place, place + 1);
      }
    }
    Checks.due(22, "8 to the 9th", x.ways(1, 1 << 2, 11), 134217728);
    Checks.due(22, "8 to the 10th", x.ways(1, 1 << 1, 11), 1000000000);
    Checks.due(22, "8 to the 11th", x.ways(1, 4095, NONE), 1000000000);
    Checks.due(21, "by 11", x.fewest(1, 4095, NONE), 11);
    Checks.due(23, "the last of them", x.spell(1, 4095, NONE, 10), 0);
  }

  private static void promises24And25() {
    HornMaze x = Checks.cerny(4);
    Checks.due(24, "without word 1", x.without(1, 15, 1), NONE);
    Checks.due(24, "without word 0", x.without(1, 3, 0), 1);
    Checks.due(24, "word 2 is none", x.without(1, 3, 2), NONE);
    Checks.due(24, "word -1 is none", x.without(1, 3, -1), NONE);
    Checks.due(24, "a single place", x.without(1, 1, 0), 0);
    Checks.due(24, "an empty set", x.without(1, 0, 0), NONE);
    Checks.due(25, "spare(1, 3)", x.spare(1, 3), 0);
    Checks.due(25, "spare(1, 15)", x.spare(1, 15), NONE);
    Checks.due(25, "a single place", x.spare(1, 1), 0);
    Checks.due(25, "an empty set", x.spare(1, 0), NONE);
    for (int[] bad : BAD_SETS) {
      Checks.due(24, "without(" + bad[0] + ", " + bad[1] + ")", x.without(bad[0], bad[1], 0), NONE);
      Checks.due(25, "spare(" + bad[0] + ", " + bad[1] + ")", x.spare(bad[0], bad[1]), NONE);
    }
    x.word(0, 0);
    Checks.due(25, "a word that does nothing", x.spare(1, 15), 2);
    Checks.due(24, "it can be left out", x.without(1, 15, 2), 9);
    Checks.leads(x, 2, 1, 2, 3, 0);
    Checks.due(25, "one as good as word 0, which the first row uses", x.spare(1, 15), 0);
    Checks.due(24, "without word 0 then", x.without(1, 15, 0), 9);
    x.hear(0, 2, 0);
    Checks.leads(x, 2, 0, 1, 2, 3);
    Checks.due(24, "left out is what is said, not what is heard", x.without(1, 15, 0), 9);
    HornMaze y = Checks.maze(3, 2);
    Checks.leads(y, 0, 0, 0, 1);
    Checks.leads(y, 1, 0, 0, 0);
    Checks.due(24, "by more words", y.without(1, 7, 1), 2);
    Checks.due(25, "word 0 is not needed", y.spare(1, 7), 0);
    Checks.due(25, "of none that ever meet", Checks.maze(2, 3).spare(1, 3), NONE);
    Checks.due(25, "a single place without words", Checks.maze(1, 0).spare(1, 1), NONE);
  }

  private static void promise26() {
    HornMaze x = Checks.maze(5, 0);
    x.word(1, 0);
    x.word(0, 0);
    Checks.leads(x, 0, 1, 2, 3, 4, 2);
    Checks.due(26, "no row", x.cycle(1, 1, 0), NONE);
    Checks.call(x, 0);
    Checks.due(26, "till the first that comes again", x.cycle(1, 1, 0), 2);
    Checks.due(26, "how many later", x.cycle(1, 1, 1), 3);
    Checks.due(26, "the doors are of the stand", x.cycle(1, 4, 0), 1);
    Checks.due(26, "as long", x.cycle(1, 4, 1), 3);
    x.doors(1);
    Checks.due(26, "with the door open", x.cycle(1, 4, 0), 0);
    Checks.due(26, "an empty set", x.cycle(1, 0, 1), 1);
    Checks.due(26, "an empty set from its beginning", x.cycle(1, 0, 0), 0);
    Checks.due(26, "what 2", x.cycle(1, 1, 2), NONE);
    Checks.due(26, "what -1", x.cycle(1, 1, -1), NONE);
    Checks.due(26, "a set that can't be", x.cycle(1, 32, 0), NONE);
    Checks.due(26, "a mix that can't be", x.cycle(4, 1, 0), NONE);
    x.hear(1, 0, NONE);
    Checks.due(26, "kind 1 stays", x.cycle(2, 1, 1), 1);
    Checks.due(26, "both", x.cycle(3, 4 | 64, 1), 3);
    Checks.call(x, 0, 1, 1, 0);
    Checks.due(26, "a longer row", x.cycle(1, 4, 1), 3);
    Checks.due(26, "by two at once", x.cycle(1, 1, 0), 1);
    x.doors(0);
    Checks.enforce(x, "barred if word = 1 and north = 1");
    Checks.call(x, 1, 0);
    Checks.due(26, "barred only the second time", x.cycle(1, 4, 0), NONE);
    Checks.call(x, 0, 1);
    Checks.due(26, "barred at once", x.cycle(1, 4, 1), NONE);
  }

  private static void promise26Long() {
    HornMaze x = Checks.maze(12, 1);
    Checks.leads(x, 0, 1, 2, 0, 4, 5, 6, 3, 8, 9, 10, 11, 7);
    Checks.call(x, 0);
    Checks.due(26, "3, 4 and 5 at once", x.cycle(1, 1 | 8 | 128, 1), 60);
    Checks.due(26, "from the beginning", x.cycle(1, 1 | 8 | 128, 0), 0);
    HornMaze y = Checks.maze(12, 1);
    Checks.leads(y, 0, 1, 2, 3, 4, 5, 6, 7, 8, 9, 10, 11, 11);
    Checks.call(y, 0);
    Checks.due(26, "eleven ahead", y.cycle(1, 1, 0), 11);
  }

  private static void promise27() {
    HornMaze x = Checks.maze(4, 0);
    x.word(1, 0);
    x.word(0, 0);
    for (int i = 0; i < 4; i++) {
      x.paint(i, i);
    }
    Checks.leads(x, 0, 1, 2, 3, 0);
    Checks.leads(x, 1, 1, 1, 2, 3);
    Checks.call(x, 0, 1);
    x.paint(3, 0);
    Checks.due(27, "no word: all of it", x.trace(15, 0, 0), 15);
    Checks.due(27, "no word: nothing was seen", x.trace(9, 0, 3), 9);
    Checks.due(27, "colour 0", x.trace(15, 1, 0), 9);
    Checks.due(27, "colour 1", x.trace(15, 1, 1), 2);
    Checks.due(27, "colour 3", x.trace(15, 1, 3), 0);
    Checks.due(27, "0 then 1", x.trace(15, 2, 4), 2);
    Checks.due(27, "0 then 0", x.trace(15, 2, 0), 8);
    Checks.due(27, "1 then 1", x.trace(15, 2, 5), 2);
    Checks.due(27, "1 then 0", x.trace(15, 2, 1), 0);
    Checks.due(27, "what is told beyond is nothing", x.trace(15, 1, 1 + 4 * 3), 2);
    Checks.due(27, "fewer words", x.trace(15, 3, 0), NONE);
    Checks.due(27, "n -1", x.trace(15, -1, 0), NONE);
    Checks.due(27, "seen -1", x.trace(15, 1, -1), NONE);
    Checks.due(27, "seen beyond", x.trace(15, 1, 1073741824), NONE);
    Checks.due(27, "seen at the most", x.trace(15, 1, 1073741823), 0);
    Checks.due(27, "a set that can't be", x.trace(16, 1, 0), NONE);
    Checks.due(27, "a set below 0", x.trace(-1, 1, 0), NONE);
    Checks.due(27, "an empty set", x.trace(0, 1, 0), 0);
    x.hear(0, 0, 1);
    Checks.due(27, "kind 0 hears it as word 1", x.trace(15, 1, 1), 2);
    Checks.due(27, "kind 0 hears it as word 1: colour 2", x.trace(15, 1, 2), 4);
    Checks.enforce(x, "barred if word = 1 and north = 1");
    Checks.due(27, "a barred one", x.trace(15, 2, 4), NONE);
    Checks.due(27, "a barred one, though nobody is left", x.trace(15, 2, 3), NONE);
    Checks.due(27, "it stands behind", x.trace(15, 1, 2), 4);
    HornMaze y = Checks.maze(2, 1);
    y.paint(1, 3);
    Checks.leads(y, 0, 1, 1);
    for (int i = 0; i < 16; i++) {
      y.call(0);
    }
    Checks.due(27, "15 words", y.trace(3, 15, 1073741823), 2);
    Checks.due(27, "15 words, the last colour otherwise", y.trace(3, 15, 1073741823 - (1 << 28)), 0);
    Checks.due(27, "16 words", y.trace(3, 16, 1073741823), NONE);
  }

  private static void promise28() {
    HornMaze x = Checks.cerny(4);
    Checks.due(28, "of one", x.stands(1, 1), 4);
    Checks.due(28, "of all", x.stands(1, 15), 15);
    Checks.due(28, "of none", x.stands(1, 0), 1);
    Checks.due(28, "of all again", x.stands(1, 15), 15);
    x.word(7, 0);
    Checks.due(28, "with doors that stay open", x.stands(1, 15), 30);
    Checks.due(28, "of none with doors", x.stands(2, 0), 2);
    x.doors(7);
    Checks.due(28, "with doors open", x.stands(1, 15), 15);
    Checks.due(28, "of both kinds", x.stands(3, 65), 4);
    Checks.enforce(x, "barred");
    Checks.due(28, "all barred", x.stands(1, 15), 1);
    for (int[] bad : BAD_SETS) {
      Checks.due(28, "stands(" + bad[0] + ", " + bad[1] + ")", x.stands(bad[0], bad[1]), NONE);
    }
    HornMaze y = Checks.maze(12, 0);
    for (int i = 0; i < 3; i++) {
      y.word(1 << i, 0);
      y.word(0, 1 << i);
    }
    Checks.due(28, "eight doors of a set", y.stands(1, 4095), 8);
  }

  private static void promises29And30() {
    HornMaze x = Checks.cerny(4);
    int[][] pairs = {{0, 1, 1}, {1, 2, 4}, {0, 2, 5}, {2, 2, 0}, {2, 1, 4}, {3, 1, 6}};
    for (int[] n : pairs) {
      Checks.due(29, "pair(0, " + n[0] + ", " + n[1] + ")", x.pair(0, n[0], n[1]), n[2]);
      Checks.due(29, "pair(1, " + n[0] + ", " + n[1] + ")", x.pair(1, n[0], n[1]), n[2]);
    }
    int[][] whiches = {{0, 1, 1}, {0, 2, 1}, {1, 2, 0}, {2, 0, 1}, {2, 2, NONE}};
    for (int[] n : whiches) {
      Checks.due(30, "which(0, " + n[0] + ", " + n[1] + ")", x.which(0, n[0], n[1]), n[2]);
    }
    x.hear(1, 1, NONE);
    Checks.due(29, "kind 1 never", x.pair(1, 0, 1), NONE);
    Checks.due(30, "kind 1 never", x.which(1, 0, 1), NONE);
    Checks.due(29, "kind 1, the same one", x.pair(1, 3, 3), 0);
    Checks.due(29, "kind 0 as ever", x.pair(0, 0, 1), 1);
    int[][] bad = {{2, 0, 1}, {-1, 0, 1}, {0, 4, 1}, {0, 0, 4}, {0, -1, 1}, {0, 1, -1}, {0, 4, 4}, {MAX, MAX, MAX}};
    for (int[] n : bad) {
      Checks.due(29, "pair of what can't be", x.pair(n[0], n[1], n[2]), NONE);
      Checks.due(30, "which of what can't be", x.which(n[0], n[1], n[2]), NONE);
    }
  }

  private static void promises29And30Doors() {
    HornMaze x = Checks.maze(3, 0);
    x.word(0, 0);
    x.word(1, 0);
    x.word(0, 0);
    Checks.leads(x, 0, 2, 1, 0);
    Checks.enforce(x, "leads 0 if word = 2 and north = 1; barred if word = 0 and north = 0");
    Checks.due(29, "the door first", x.pair(0, 1, 2), 2);
    Checks.due(30, "the door first", x.which(0, 1, 2), 1);
    x.doors(1);
    Checks.due(29, "with the door open", x.pair(0, 1, 2), 1);
    Checks.due(30, "with the door open", x.which(0, 1, 2), 2);
    Checks.leads(x, 0, 0, 0, 0);
    Checks.due(30, "the lowest word", x.which(0, 1, 2), 0);
    x.doors(0);
    Checks.due(30, "a barred one is none", x.which(0, 1, 2), 1);
  }

  private static void promises31And32() {
    HornMaze x = Checks.cerny(4);
    Checks.due(31, "farthest(0)", x.farthest(0), 6);
    Checks.due(32, "bar(0)", x.bar(0), NONE);
    for (int kind : new int[] {2, -1, MAX, MIN}) {
      Checks.due(31, "farthest(" + kind + ")", x.farthest(kind), NONE);
      Checks.due(32, "bar(" + kind + ")", x.bar(kind), NONE);
    }
    x.hear(1, 1, NONE);
    Checks.due(31, "farthest(1)", x.farthest(1), NONE);
    Checks.due(32, "bar(1)", x.bar(1), 1);
    HornMaze y = Checks.maze(4, 1);
    Checks.leads(y, 0, 0, 0, 2, 2);
    Checks.due(32, "0 and 1 meet, 0 and 2 never", y.bar(0), 2);
    Checks.leads(y, 0, 0, 0, 0, 3);
    Checks.due(32, "0 and 3", y.bar(0), 3);
    y.lead(0, 3, 0);
    Checks.due(32, "none", y.bar(0), NONE);
    Checks.due(31, "then", y.farthest(0), 1);
    HornMaze z = Checks.maze(0, 1);
    for (int places = 0; places < 2; places++) {
      Checks.due(31, "without two", z.farthest(0), 0);
      Checks.due(32, "without two", z.bar(0), NONE);
      z.place(0);
    }
    Checks.due(31, "two that never meet", z.farthest(0), NONE);
    Checks.due(32, "two that never meet", z.bar(0), 1);
    HornMaze v = Checks.maze(12, 1);
    Checks.leads(v, 0, 0, 0, 0, 0, 0, 0, 0, 0, 0, 0, 0, 11);
    Checks.due(32, "12 times the lower and the other", v.bar(0), 11);
  }

  /** Nearly all pairs are led to one pair by nearly all words. */
  private static void promise31Many() {
    HornMaze x = Checks.maze(12, 8);
    for (int word = 0; word < 7; word++) {
      Checks.leads(x, word, 0, 1, 0, 1, 0, 1, 0, 1, 0, 1, 0, 1);
    }
    x.lead(7, 1, 0);
    Checks.due(31, "all by one pair", x.farthest(0), 2);
    Checks.due(29, "one of these", x.pair(0, 2, 5), 2);
    Checks.due(29, "the last of these", x.pair(0, 10, 11), 2);
    Checks.due(30, "the lowest word", x.which(0, 2, 5), 0);
    Checks.due(30, "the pair itself", x.which(0, 0, 1), 7);
    Checks.due(33, "0 and 1 ahead, then 0 and 2, then 0 and 1 again", x.plod(0, 4095), 3);
    Checks.due(34, "all look alike", x.sight(4095), 2);
    Checks.due(32, "none", x.bar(0), NONE);
  }

  private static void promise33() {
    HornMaze x = Checks.cerny(4);
    Checks.due(33, "plod(0, 15)", x.plod(0, 15), 10);
    Checks.due(33, "a single place", x.plod(0, 8), 0);
    Checks.due(33, "an empty set", x.plod(0, 0), NONE);
    Checks.due(33, "two", x.plod(0, 5), 5);
    Checks.due(33, "kind 2", x.plod(2, 15), NONE);
    Checks.due(33, "kind -1", x.plod(-1, 15), NONE);
    Checks.due(33, "a set that can't be", x.plod(0, 16), NONE);
    Checks.due(33, "a set below 0", x.plod(0, -1), NONE);
    x.hear(1, 1, NONE);
    Checks.due(33, "no two of it can meet", x.plod(1, 15), NONE);
    Checks.due(33, "a single place can", x.plod(1, 2), 0);
    HornMaze y = Checks.maze(4, 1);
    Checks.leads(y, 0, 0, 0, 2, 2);
    Checks.due(33, "no two of it can meet then", y.plod(0, 15), NONE);
    Checks.due(33, "two of these", y.plod(0, 12), 1);
  }

  /** The door that the first pair's row opens is what the second pair needs. */
  private static void promise33Doors() {
    HornMaze x = Checks.maze(3, 0);
    x.word(1, 0);
    x.word(0, 1);
    Checks.enforce(x, "leads 0 if word = 0 and place < 2; leads 0 if word = 1 and north = 1 and place = 2");
    Checks.due(33, "0 and 1 by word 0, then 2 by word 1", x.plod(0, 7), 2);
    Checks.due(33, "nothing is said", x.count(13), 0);
    Checks.due(33, "the pair alone", x.pair(0, 0, 2), 2);
    Checks.due(33, "from the door open", x.doors(1) + x.plod(0, 7), 2);
  }

  private static void promises34And35() {
    HornMaze x = Checks.cerny(4);
    x.paint(1, 1);
    Checks.due(34, "sight(15)", x.sight(15), 3);
    Checks.due(35, "ask(15)", x.ask(15), 0);
    for (int place = 0; place < 4; place++) {
      Checks.due(34, "one place", x.sight(1 << place), 0);
      Checks.due(35, "one place", x.ask(1 << place), NONE);
    }
    Checks.due(34, "an empty set", x.sight(0), NONE);
    Checks.due(35, "an empty set", x.ask(0), NONE);
    for (int set : new int[] {16, -1, 4096, MAX, MIN}) {
      Checks.due(34, "sight(" + set + ")", x.sight(set), NONE);
      Checks.due(35, "ask(" + set + ")", x.ask(set), NONE);
    }
    Checks.due(34, "0 and 3", x.sight(9), 1);
    Checks.due(35, "0 and 3 by turning", x.ask(9), 0);
    Checks.due(34, "2 and 3, what is seen at first is not told", x.sight(12), 2);
    Checks.due(34, "1 and 3: a word must be said", x.sight(10), 1);
    Checks.due(35, "1 and 3: by word 1", x.ask(10), 1);
    x.hear(0, 0, NONE);
    Checks.due(34, "2 and 3 that stay", x.sight(12), NONE);
    Checks.due(35, "2 and 3 that stay", x.ask(12), NONE);
    Checks.due(34, "0 and 1 meet by word 1, and stay by word 0", x.sight(3), 1);
    Checks.due(35, "the lowest of both", x.ask(3), 0);
    x.hear(1, 1, NONE);
    Checks.due(34, "kind 1 is no matter", x.sight(3), 1);
    Checks.enforce(x, "barred if word = 0");
    Checks.due(35, "a barred one is none", x.ask(3), 1);
    x.paint(2, 2);
    Checks.due(34, "painted otherwise", x.sight(14), 1);
  }

  /** What one sees decides what is said next, and doors are of the stand. */
  private static void promise34Worst() {
    HornMaze x = Checks.maze(6, 0);
    x.word(0, 0);
    x.word(0, 0);
    x.word(1, 0);
    for (int place = 2; place < 6; place++) {
      x.paint(place, place < 4 ? 1 : 2);
    }
    x.paint(1, 3);
    Checks.enforce(x, "leads place - 2 if word = 0 and place < 4 and place > 1; "
        + "leads place - 4 if word = 1 and place > 3; barred if word < 2 and north = 0");
    Checks.due(34, "a door, then by what is seen", x.sight(60), 2);
    Checks.due(35, "the door", x.ask(60), 2);
    Checks.due(34, "two of one colour", x.sight(12), 2);
    x.doors(1);
    Checks.due(34, "with the door open: two", x.sight(12), 1);
    Checks.due(34, "with the door open: four", x.sight(60), 2);
    Checks.due(35, "with the door open: four", x.ask(60), 0);
    Checks.due(35, "with the door open: two", x.ask(48), 1);
  }

  public static void main(String[] args) {
    promises19And20();
    promise19Mixes();
    promises21To23();
    promises21And22Doors();
    promises21To23Mix3();
    promise22Most();
    promises24And25();
    promise26();
    promise26Long();
    promise27();
    promise28();
    promises29And30();
    promises29And30Doors();
    promises31And32();
    promise31Many();
    promise33();
    promise33Doors();
    promises34And35();
    promise34Worst();
    Checks.end();
  }
}
