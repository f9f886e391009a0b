/** The edges that Terms III and promises 19 to 35 name. */
public final class EdgesWordsTest {
  private static final int NONE = Checks.NONE;
  private static final int MAX = Checks.MAX;
  private static final int MIN = Checks.MIN;

  /** Two words, each of which leads all places to place 0; word 0 is called once. */
  private static HornMaze gathering(int places) {
    HornMaze x = Checks.maze(places, 2);
    for (int place = 0; place < places; place++) {
      x.lead(0, place, 0);
      x.lead(1, place, 0);
    }
    x.call(0);
    return x;
  }

  /** What each call that takes a MIX and a SET answers for the set of no place, of one, of several. */
  private static void ofSet(HornMaze x, int mix, int set, int places) {
    String name = "(" + mix + ", " + set + ") of " + x.count(0) + " places: ";
    boolean isEmpty = places == 0;
    boolean isApart = places > 1;
    Checks.due(19, name + "after", x.after(mix, set, 0), set);
    Checks.due(21, name + "fewest", x.fewest(mix, set, NONE), isEmpty ? NONE : isApart ? 1 : 0);
    Checks.due(22, name + "ways", x.ways(mix, set, NONE), isEmpty ? 0 : isApart ? 2 : 1);
    Checks.due(23, name + "spell", x.spell(mix, set, NONE, 0), isApart ? 0 : NONE);
    Checks.due(24, name + "without", x.without(mix, set, 0), isEmpty ? NONE : isApart ? 1 : 0);
    Checks.due(25, name + "spare", x.spare(mix, set), isEmpty ? NONE : 0);
    Checks.due(26, name + "cycle, ahead", x.cycle(mix, set, 0), isApart ? 1 : 0);
    Checks.due(26, name + "cycle, again", x.cycle(mix, set, 1), 1);
    Checks.due(28, name + "stands", x.stands(mix, set), isApart ? 2 : 1);
  }

  private static void noSet(HornMaze x, int mix, int set) {
    String name = "(" + mix + ", " + set + ") of " + x.count(0) + " places: ";
    Checks.due(19, name + "after", x.after(mix, set, 0), NONE);
    Checks.due(21, name + "fewest", x.fewest(mix, set, NONE), NONE);
    Checks.due(22, name + "ways", x.ways(mix, set, NONE), NONE);
    Checks.due(23, name + "spell", x.spell(mix, set, NONE, 0), NONE);
    Checks.due(24, name + "without", x.without(mix, set, 0), NONE);
    Checks.due(25, name + "spare", x.spare(mix, set), NONE);
    Checks.due(26, name + "cycle, ahead", x.cycle(mix, set, 0), NONE);
    Checks.due(26, name + "cycle, again", x.cycle(mix, set, 1), NONE);
    Checks.due(28, name + "stands", x.stands(mix, set), NONE);
  }

  /** What each call that takes a SET of KIND 0 alone, or a KIND and a SET, answers. */
  private static void ofKind(HornMaze x, int set, int places) {
    String name = set + " of " + x.count(0) + " places: ";
    int words = places == 0 ? NONE : places > 1 ? 1 : 0;
    Checks.due(27, name + "trace", x.trace(set, 1, 0), places == 0 ? 0 : 1);
    Checks.due(33, name + "plod 0", x.plod(0, set), words);
    Checks.due(33, name + "plod 1", x.plod(1, set), words);
    Checks.due(34, name + "sight", x.sight(set), words);
    Checks.due(35, name + "ask", x.ask(set), places > 1 ? 0 : NONE);
  }

  private static void noKind(HornMaze x, int set) {
    String name = set + " of " + x.count(0) + " places: ";
    Checks.due(27, name + "trace", x.trace(set, 1, 0), NONE);
    Checks.due(33, name + "plod 0", x.plod(0, set), NONE);
    Checks.due(33, name + "plod 1", x.plod(1, set), NONE);
    Checks.due(34, name + "sight", x.sight(set), NONE);
    Checks.due(35, name + "ask", x.ask(set), NONE);
  }

  /** "A SET of PLACES: bits." The last SET is that of all PLACES, none has a PLACE that is not there. */
  private static void sets() {
    for (int places = 0; places <= 12; places++) {
      HornMaze x = gathering(places);
      int all = (1 << places) - 1;
      for (int mix = 1; mix <= 2; mix++) {
        ofSet(x, mix, 0, 0);
        ofSet(x, mix, all, places);
        ofSet(x, mix, all & 1, Math.min(places, 1));
        for (int set : new int[] {all + 1, all + 1 | 1, -1, 4096, MAX, MIN}) {
          noSet(x, mix, set);
        }
      }
      for (int mix : new int[] {0, 4, -1, MAX, MIN}) {
        Checks.due(19, "mix " + mix, x.after(mix, 0, 0), NONE);
        Checks.due(28, "mix " + mix, x.stands(mix, 0), NONE);
      }
      HornMaze y = gathering(places);
      ofKind(y, 0, 0);
      ofKind(y, all, places);
      ofKind(y, all & 1, Math.min(places, 1));
      for (int set : new int[] {all + 1, all + 1 | 1, -1, 4096, 4097, MAX, MIN}) {
        noKind(y, set);
      }
    }
  }

  /** "of a MIX 3 of both, PLACE p of KIND k being bit p and 6 k: if there are 6 PLACES at most." */
  private static void mixes() {
    for (int places = 0; places <= 6; places++) {
      HornMaze x = gathering(places);
      int all = (1 << places) - 1;
      ofSet(x, 3, 0, 0);
      ofSet(x, 3, all | all << 6, places);
      ofSet(x, 3, (all | all << 6) & 65, Math.min(places, 1));
      ofSet(x, 3, all << 6, places);
      if (places < 6) {
        noSet(x, 3, 1 << places);
        noSet(x, 3, 1 << places + 6);
        noSet(x, 3, 32);
        noSet(x, 3, 2048);
      }
      for (int set : new int[] {-1, 4096, MAX, MIN}) {
        noSet(x, 3, set);
      }
    }
    HornMaze x = gathering(7);
    for (int set : new int[] {0, 1, 65, 4095}) {
      noSet(x, 3, set);
    }
    HornMaze y = Checks.maze(6, 1);
    y.lead(0, 5, 4);
    y.hear(1, 0, NONE);
    y.call(0);
    Checks.due(19, "place 5 of kind 0 is bit 5, of kind 1 bit 11", y.after(3, 32 | 2048, 1), 16 | 2048);
    Checks.due(21, "both in place 5", y.fewest(3, 32 | 2048, 5), 0);
    Checks.due(21, "place 5 and place 4", y.fewest(3, 32 | 1024, NONE), 1);
    Checks.due(21, "kind 1 never comes to place 4", y.fewest(3, 32 | 2048, 4), NONE);
  }

  /** "NONE (fewer WORDS, a BARRED one among them, too)", for after, open and trace. */
  private static void rows() {
    HornMaze x = Checks.maze(3, 0);
    x.word(1, 0);
    x.word(2, 0);
    Checks.leads(x, 0, 1, 2, 0);
    Checks.call(x, 0, 0, 1, 0);
    for (int n : new int[] {-1, 5, MAX, MIN}) {
      Checks.due(19, "after(1, 1, " + n + ")", x.after(1, 1, n), NONE);
      Checks.due(20, "open(" + n + ")", x.open(n), NONE);
      Checks.due(27, "trace(1, " + n + ", 0)", x.trace(1, n, 0), NONE);
    }
    int[] sets = {1, 2, 4, 4, 1};
    int[] doors = {0, 1, 1, 3, 3};
    for (int n = 0; n <= 4; n++) {
      Checks.due(19, "after(1, 1, " + n + ")", x.after(1, 1, n), sets[n]);
      Checks.due(20, "open(" + n + ")", x.open(n), doors[n]);
      Checks.due(27, "trace(1, " + n + ", 0)", x.trace(1, n, 0), sets[n]);
    }
    Checks.enforce(x, "barred if word = 1 and north = 1");
    for (int n = 0; n <= 4; n++) {
      Checks.due(19, "with a barred one, after(1, 1, " + n + ")", x.after(1, 1, n), n < 3 ? sets[n] : NONE);
      Checks.due(19, "with a barred one, after(1, 0, " + n + ")", x.after(1, 0, n), n < 3 ? 0 : NONE);
      Checks.due(20, "with a barred one, open(" + n + ")", x.open(n), n < 3 ? doors[n] : NONE);
      Checks.due(27, "with a barred one, trace(1, " + n + ", 0)", x.trace(1, n, 0), n < 3 ? sets[n] : NONE);
      Checks.due(27, "nobody is left, trace(1, " + n + ", 3)", x.trace(1, n, 3), n == 0 ? 1 : n < 3 ? 0 : NONE);
    }
    Checks.enforce(x, "barred if east = 1");
    Checks.due(19, "barred at the last", x.after(1, 1, 4), NONE);
    Checks.due(19, "not ahead of it", x.after(1, 1, 3), 4);
    Checks.enforce(x, "barred");
    Checks.due(19, "all barred, none said", x.after(1, 1, 0), 1);
    Checks.due(20, "all barred, none said", x.open(0), 0);
    Checks.due(19, "all barred", x.after(1, 1, 1), NONE);
    Checks.due(20, "all barred", x.open(1), NONE);
    x.tear();
    Checks.due(19, "no row", x.after(1, 1, 0), 1);
    Checks.due(19, "one of no row", x.after(1, 1, 1), NONE);
  }

  private static void longRows() {
    HornMaze x = Checks.maze(12, 1);
    Checks.leads(x, 0, 1, 2, 3, 4, 5, 6, 7, 8, 9, 10, 11, 0);
    for (int i = 0; i < 60; i++) {
      x.call(0);
    }
    Checks.due(19, "60 words", x.after(1, 2049, 60), 2049);
    Checks.due(19, "59 words", x.after(2, 2049, 59), 1024 | 2048);
    Checks.due(19, "61 words", x.after(1, 2049, 61), NONE);
    Checks.due(26, "60 turns at once", x.cycle(1, 1, 1), 1);
  }

  /** "FEWEST to a PLACE (NONE: anywhere)." */
  private static void aims() {
    HornMaze x = Checks.maze(12, 2);
    Checks.leads(x, 0, 1, 2, 3, 4, 5, 6, 7, 8, 9, 10, 11, 11);
    Checks.due(21, "to place 11", x.fewest(1, 4095, 11), 11);
    Checks.due(21, "anywhere", x.fewest(1, 4095, NONE), 11);
    Checks.due(21, "to place 0, where it is", x.fewest(1, 1, 0), 0);
    Checks.due(22, "to place 0, where it is", x.ways(1, 1, 0), 1);
    Checks.due(23, "to place 0, where it is", x.spell(1, 1, 0, 0), NONE);
    Checks.due(21, "to place 0 never", x.fewest(1, 2, 0), NONE);
    Checks.due(22, "to place 0 never", x.ways(1, 2, 0), 0);
    Checks.due(23, "to place 0 never", x.spell(1, 2, 0, 0), NONE);
    Checks.due(22, "an empty set to a place", x.ways(1, 0, 0), 0);
    for (int to : new int[] {12, -2, 32, 43, MAX, MIN}) {
      Checks.due(21, "fewest to " + to, x.fewest(1, 1, to), NONE);
      Checks.due(22, "ways to " + to, x.ways(1, 1, to), NONE);
      Checks.due(22, "ways of an empty set to " + to, x.ways(1, 0, to), NONE);
      Checks.due(23, "spell to " + to, x.spell(1, 4095, to, 0), NONE);
    }
    for (int i = 0; i < 11; i++) {
      Checks.due(23, "spell " + i, x.spell(1, 4095, 11, i), 0);
    }
    for (int i : new int[] {-1, 11, MAX, MIN}) {
      Checks.due(23, "spell " + i, x.spell(1, 4095, 11, i), NONE);
    }
  }

  /** "WAYS (1,000,000,000 at most)": so many words lead on from each place of a row of twelve. */
  private static int waysBy(int... wordsOf) {
    HornMaze x = Checks.maze(12, 8);
    for (int place = 0; place < wordsOf.length; place++) {
      for (int word = 0; word < wordsOf[place]; word++) {
        x.lead(word, place, place + 1);
      }
    }
    return x.ways(1, 1, wordsOf.length);
  }

  private static void manyWays() {
    Checks.due(22, "8 to the 9th times 7", waysBy(8, 8, 8, 8, 8, 8, 8, 8, 8, 7), 939524096);
    Checks.due(22, "7 to the 10th times 3", waysBy(7, 7, 7, 7, 7, 7, 7, 7, 7, 7, 3), 847425747);
    Checks.due(22, "8 to the 10th", waysBy(8, 8, 8, 8, 8, 8, 8, 8, 8, 8), 1000000000);
    Checks.due(22, "7 to the 10th times 4", waysBy(7, 7, 7, 7, 7, 7, 7, 7, 7, 7, 4), 1000000000);
    Checks.due(22, "8 to the 10th times 2, which is 0 in 31 bits", waysBy(8, 8, 8, 8, 8, 8, 8, 8, 8, 8, 2), 1000000000);
    Checks.due(22, "8 to the 11th, which is 0 in 32 bits", waysBy(8, 8, 8, 8, 8, 8, 8, 8, 8, 8, 8), 1000000000);
    Checks.due(22, "5 and 8 to the 5th", waysBy(5, 5, 5, 5, 5, 8, 8, 8, 8, 8), 102400000);
    HornMaze x = Checks.maze(12, 8);
    for (int place = 0; place < 8; place++) {
      for (int word = 0; word < 8; word++) {
        x.lead(word, place, place + 1);
      }
    }
    // From place 8 half of the words lead to either of two places, where kind 1 waits in neither.
    for (int word = 0; word < 8; word++) {
      x.lead(word, 8, word < 4 ? 9 : 10);
      x.lead(word, 9, 11);
      x.lead(word, 10, 11);
    }
    Checks.due(22, "by two stands", x.ways(1, 1, 11), 1000000000);
    Checks.due(22, "by one of them", x.ways(1, 1, 9), 67108864);
    Checks.due(22, "by the other", x.ways(1, 1, 10), 67108864);
    Checks.due(22, "from the next", x.ways(1, 2, 11), 134217728);
  }

  /** "FEWEST without a WORD (which nobody says)"; "The lowest WORD without which FEWEST is as few". */
  private static void leftOut() {
    HornMaze x = Checks.maze(9, 8);
    for (int word = 0; word < 7; word++) {
      x.lead(word, word + 1, 0);
    }
    Checks.due(21, "each of seven words once", x.fewest(1, 255, NONE), 7);
    Checks.due(22, "in any order", x.ways(1, 255, NONE), 5040);
    Checks.due(25, "the last word alone can be spared", x.spare(1, 255), 7);
    Checks.due(24, "without(1, 255, 7)", x.without(1, 255, 7), 7);
    Checks.due(24, "without(1, 255, 6)", x.without(1, 255, 6), NONE);
    Checks.due(24, "without(1, 255, 0)", x.without(1, 255, 0), NONE);
    for (int word : new int[] {8, -1, MAX, MIN}) {
      Checks.due(24, "without(1, 255, " + word + ")", x.without(1, 255, word), NONE);
    }
    x.lead(7, 8, 0);
    Checks.due(25, "each of eight words is needed", x.spare(1, 511), NONE);
    Checks.due(25, "of two places the first word", x.spare(1, 257), 0);
    Checks.due(25, "of the first two the next", x.spare(1, 3), 1);
    Checks.due(25, "of a single place the first", x.spare(1, 8), 0);
    Checks.due(25, "of an empty set none", x.spare(1, 0), NONE);
    x.lead(7, 2, 0);
    Checks.due(25, "word 1 or word 7 for place 2: the lower", x.spare(1, 7), 1);
    Checks.due(24, "without word 7", x.without(1, 7, 7), 2);
    Checks.due(24, "without word 1", x.without(1, 7, 1), 2);
    Checks.enforce(x, "barred if word = 7");
    Checks.due(24, "without word 1, word 7 barred", x.without(1, 7, 1), NONE);
    Checks.due(25, "word 3, which is not needed", x.spare(1, 7), 2);
    Checks.due(25, "a barred one can be spared", x.spare(1, 255), 7);
  }

  /** "cycle": what 0 and 1; the longest ways ahead and round. */
  private static void cycles() {
    HornMaze x = Checks.maze(12, 0);
    x.word(1, 0);
    Checks.enforce(x, "leads place + 1 if north = 1 and place < 11");
    Checks.due(26, "no row", x.cycle(1, 1, 0), NONE);
    Checks.due(26, "no row, again", x.cycle(1, 1, 1), NONE);
    x.call(0);
    Checks.due(26, "a door, then eleven places", x.cycle(1, 1, 0), 12);
    Checks.due(26, "it stays there", x.cycle(1, 1, 1), 1);
    Checks.due(26, "an empty set has doors, too", x.cycle(1, 0, 0), 1);
    Checks.due(26, "an empty set again", x.cycle(1, 0, 1), 1);
    for (int what : new int[] {-1, 2, MAX, MIN}) {
      Checks.due(26, "what " + what, x.cycle(1, 1, what), NONE);
    }
    x.tear();
    Checks.due(26, "no row any more", x.cycle(1, 1, 0), NONE);
    HornMaze y = Checks.maze(12, 0);
    y.word(1, 0);
    Checks.leads(y, 0, 1, 2, 0, 4, 5, 6, 3, 8, 9, 10, 11, 7);
    y.call(0);
    Checks.due(26, "by a door ahead, round in 60", y.cycle(1, 1 | 8 | 128, 0), 1);
    Checks.due(26, "round in 60", y.cycle(1, 1 | 8 | 128, 1), 60);
    Checks.due(26, "round in 12", y.cycle(2, 1 | 8, 1), 12);
    HornMaze z = Checks.maze(6, 0);
    z.word(0, 0);
    z.word(0, 0);
    Checks.leads(z, 0, 1, 2, 3, 4, 0, 5);
    Checks.leads(z, 1, 1, 2, 0, 4, 3, 5);
    z.hear(1, 0, 1);
    z.call(0);
    Checks.due(26, "both kinds, 5 and 6", z.cycle(3, 1 | 64 * 9, 1), 30);
    z.hear(0, 0, NONE);
    Checks.due(26, "kind 1 alone moves", z.cycle(3, 1 | 64 * 9, 1), 6);
    Checks.due(26, "from the beginning", z.cycle(3, 1 | 64 * 9, 0), 0);
  }

  private static void barredCycles() {
    HornMaze x = Checks.maze(2, 0);
    x.word(1, 0);
    x.word(0, 0);
    Checks.leads(x, 1, 1, 0);
    Checks.enforce(x, "barred if word = 1 and north = 1");
    Checks.call(x, 1, 0);
    Checks.due(26, "barred when it is said once more", x.cycle(1, 1, 0), NONE);
    Checks.due(26, "that is no matter of the set", x.cycle(1, 0, 1), NONE);
    Checks.call(x, 1);
    Checks.due(26, "never barred", x.cycle(1, 1, 1), 2);
    x.doors(1);
    Checks.due(26, "barred at once", x.cycle(1, 1, 1), NONE);
    Checks.call(x, 0, 0);
    Checks.due(26, "not among these", x.cycle(1, 1, 1), 1);
    Checks.call(x, 0, 1);
    Checks.due(26, "the last of the row", x.cycle(1, 1, 0), NONE);
  }

  /** "the first n WORDS (0 .. 15)", "a number (0 .. 1,073,741,823)". */
  private static void traces() {
    HornMaze x = Checks.maze(4, 1);
    for (int place = 0; place < 4; place++) {
      x.paint(place, place);
      x.lead(0, place, (place + 1) % 4);
    }
    for (int i = 0; i < 16; i++) {
      x.call(0);
    }
    int seen = 0;
    for (int n = 0; n <= 15; n++) {
      Checks.due(27, "trace(15, " + n + ", " + seen + ")", x.trace(15, n, seen), n == 0 ? 15 : 1 << (3 + n) % 4);
      if (n > 0) {
        Checks.due(27, n + " words, the last otherwise", x.trace(15, n, seen ^ 1 << 2 * n - 2), n == 1 ? 2 : 0);
        Checks.due(27, n + " words, what is told beyond", x.trace(15, n, seen | (MAX >> 1) << 2 * n & MAX >> 1),
            1 << (3 + n) % 4);
      }
      seen |= n < 15 ? n % 4 << 2 * n : 0;
    }
    Checks.due(27, "16 words", x.trace(15, 16, seen), NONE);
    Checks.due(27, "-1 words", x.trace(15, -1, seen), NONE);
    Checks.due(27, "the most that can be seen", x.trace(15, 1, 1073741823), 8);
    Checks.due(27, "more than that", x.trace(15, 1, 1073741824), NONE);
    Checks.due(27, "more than that, of no words", x.trace(15, 0, 1073741824), NONE);
    Checks.due(27, "less than 0", x.trace(15, 0, -1), NONE);
    Checks.due(27, "the most", x.trace(15, 0, MAX), NONE);
    Checks.due(27, "the least", x.trace(15, 0, MIN), NONE);
    Checks.due(27, "0", x.trace(15, 1, 0), 1);
    Checks.call(x, 0, 0);
    Checks.due(27, "fewer words", x.trace(15, 3, 0), NONE);
    Checks.due(27, "as many words", x.trace(15, 2, 4), 2);
    x.hear(1, 0, NONE);
    Checks.due(27, "of kind 0", x.trace(1, 1, 1), 2);
    x.hear(1, 0, 0);
    x.hear(0, 0, NONE);
    Checks.due(27, "of kind 0, which does not hear it", x.trace(1, 1, 1), 0);
    Checks.due(27, "of kind 0, which stays", x.trace(1, 1, 0), 1);
  }

  /** All sets but the empty one, with all doors. */
  private static void allStands() {
    HornMaze x = Checks.maze(12, 3);
    Checks.leads(x, 0, 1, 2, 3, 4, 5, 6, 7, 8, 9, 10, 11, 0);
    Checks.leads(x, 1, 1, 0);
    Checks.leads(x, 2, 1, 1);
    x.word(1, 0);
    x.word(2, 0);
    x.word(4, 0);
    x.word(0, 7);
    Checks.due(28, "all that can be", x.stands(1, 4095), 4095 * 8);
    Checks.due(28, "of one place", x.stands(1, 1), 12 * 8);
    Checks.due(28, "of none", x.stands(1, 0), 8);
    Checks.due(34, "all look alike", x.sight(4095), x.fewest(1, 4095, NONE));
    HornMaze y = Checks.maze(6, 3);
    Checks.leads(y, 0, 1, 2, 3, 4, 5, 0);
    Checks.leads(y, 1, 1, 0);
    y.hear(1, 1, 0);
    y.hear(1, 0, 2);
    Checks.due(28, "both kinds", y.stands(3, 1 | 64), 36);
    y.lead(0, 5, 5);
    Checks.due(28, "kind 1 goes by word 0 as word 1 is said", y.stands(3, 64), 6);
  }

  /** From each doors to each: the only ones with which word 6 brings two places together. */
  private static void allDoors() {
    for (int aim = 0; aim < 8; aim++) {
      HornMaze x = Checks.maze(2, 0);
      for (int door = 1; door < 8; door *= 2) {
        x.word(door, 0);
        x.word(0, door);
      }
      x.word(0, 0);
      Checks.enforce(x, "leads 0 if word = 6 and north + 2 * east + 4 * west = " + aim);
      for (int doors = 0; doors < 8; doors++) {
        // What was found must not help with what is asked next.
        x.paint(0, 0);
        x.doors(doors);
        String name = "from doors " + doors + " to " + aim;
        int due = Integer.bitCount(doors ^ aim) + 1;
        Checks.due(21, name + ": fewest", x.fewest(1, 3, NONE), due);
        Checks.due(29, name + ": pair", x.pair(1, 0, 1), due);
        Checks.due(31, name + ": farthest", x.farthest(0), due);
        Checks.due(33, name + ": plod", x.plod(0, 3), due);
        Checks.due(34, name + ": sight", x.sight(3), due);
        Checks.due(28, name + ": stands", x.stands(1, 3), 16);
        Checks.due(24, name + ": without", x.without(1, 3, 6), NONE);
      }
    }
  }

  /** Each door can be opened only behind the one ahead of it. */
  private static void doorBehindDoor() {
    HornMaze x = Checks.maze(2, 0);
    x.word(1, 0);
    x.word(2, 0);
    x.word(4, 0);
    x.word(0, 0);
    Checks.enforce(x, "barred if word = 1 and north = 0; barred if word = 2 and east = 0; "
        + "leads 0 if word = 3 and north + east + west = 3");
    int[] due = {4, 3, 3, 2, 3, 2, 2, 1};
    for (int doors = 0; doors < 8; doors++) {
      x.paint(0, 0);
      x.doors(doors);
      Checks.due(29, "pair from doors " + doors, x.pair(0, 0, 1), due[doors]);
      Checks.due(34, "sight from doors " + doors, x.sight(3), due[doors]);
      Checks.due(21, "fewest from doors " + doors, x.fewest(1, 3, 0), due[doors]);
      Checks.due(22, "ways from doors " + doors, x.ways(1, 3, 0), doors == 2 ? 2 : 1);
    }
  }

  /** The same set of each MIX in a row, which the kinds hear otherwise. */
  private static void mixAfterMix() {
    HornMaze x = Checks.maze(6, 2);
    Checks.leads(x, 0, 0, 0, 1, 2, 3, 4);
    x.hear(1, 0, NONE);
    x.lead(1, 1, 0);
    for (int round = 0; round < 2; round++) {
      Checks.due(21, "mix 1", x.fewest(1, 7, NONE), 2);
      Checks.due(21, "mix 2", x.fewest(2, 7, NONE), NONE);
      Checks.due(21, "mix 3", x.fewest(3, 7, NONE), 2);
      Checks.due(28, "mix 1", x.stands(1, 3), 2);
      Checks.due(28, "mix 2", x.stands(2, 6), 2);
      Checks.due(28, "mix 1", x.stands(1, 6), 4);
      Checks.due(24, "mix 1", x.without(1, 3, 1), 1);
      Checks.due(24, "mix 2", x.without(2, 3, 1), NONE);
      Checks.due(24, "mix 2", x.without(2, 3, 0), 1);
    }
  }

  /** "By how many WORDS two PLACES of a KIND MEET (0: the same one)"; "(the same one, never, too)". */
  private static void pairs() {
    HornMaze x = Checks.maze(12, 1);
    Checks.leads(x, 0, 1, 2, 3, 4, 5, 6, 7, 8, 9, 10, 11, 11);
    Checks.due(29, "pair(0, 0, 11)", x.pair(0, 0, 11), 11);
    Checks.due(29, "pair(1, 11, 0)", x.pair(1, 11, 0), 11);
    Checks.due(29, "pair(0, 10, 11)", x.pair(0, 10, 11), 1);
    Checks.due(29, "pair(0, 11, 11)", x.pair(0, 11, 11), 0);
    Checks.due(29, "pair(0, 0, 0)", x.pair(0, 0, 0), 0);
    Checks.due(30, "which(0, 0, 11)", x.which(0, 0, 11), 0);
    Checks.due(30, "which(0, 11, 11)", x.which(0, 11, 11), NONE);
    int[][] bad = {{0, 12, 0}, {0, 0, 12}, {0, 12, 12}, {0, -1, 0}, {0, 0, -1}, {0, -1, -1}, {2, 0, 1}, {-1, 0, 1},
        {2, 0, 0}, {0, 0, 33}, {0, 33, 0}, {0, 0, 32}, {0, 0, 43}, {0, MAX, 0}, {0, MIN, 0}, {0, 0, MAX}, {0, 0, MIN}, {MAX, 0, 0}, {MIN, 0, 0}};
    for (int[] n : bad) {
      Checks.due(29, "pair(" + n[0] + ", " + n[1] + ", " + n[2] + ")", x.pair(n[0], n[1], n[2]), NONE);
      Checks.due(30, "which(" + n[0] + ", " + n[1] + ", " + n[2] + ")", x.which(n[0], n[1], n[2]), NONE);
    }
    x.lead(0, 10, 10);
    Checks.due(29, "never", x.pair(0, 0, 11), NONE);
    Checks.due(30, "never", x.which(0, 0, 11), NONE);
    Checks.enforce(x, "barred");
    Checks.due(29, "all barred", x.pair(0, 9, 10), NONE);
    Checks.due(29, "all barred, the same one", x.pair(0, 9, 9), 0);
    Checks.due(30, "all barred", x.which(0, 9, 10), NONE);
  }

  /** "The lowest WORD (not BARRED with DOORS as they are)". */
  private static void whichWord() {
    HornMaze x = Checks.maze(3, 8);
    x.lead(6, 1, 0);
    x.lead(7, 1, 0);
    Checks.due(30, "word 6 of 6 and 7", x.which(0, 0, 1), 6);
    Checks.enforce(x, "barred if word = 6");
    Checks.due(30, "word 7", x.which(0, 0, 1), 7);
    Checks.enforce(x, "barred if word = 6 and north = 1");
    Checks.due(30, "with the door shut", x.which(0, 0, 1), 6);
    x.doors(1);
    Checks.due(30, "with the door open", x.which(0, 0, 1), 7);
    HornMaze y = Checks.maze(2, 0);
    y.word(0, 0);
    y.word(1, 0);
    y.word(2, 0);
    Checks.enforce(y, "leads 0 if word = 0 and north = 1; leads 0 if word = 0 and east = 1");
    Checks.due(29, "a door, then word 0", y.pair(0, 0, 1), 2);
    Checks.due(30, "the lower of two that open one", y.which(0, 0, 1), 1);
    y.doors(2);
    Checks.due(30, "one is open", y.which(0, 0, 1), 0);
  }

  /** "(0 without two). NONE (with a BAR, too)"; "12 times the one and the other one". */
  private static void bars() {
    for (int places = 0; places <= 2; places++) {
      HornMaze x = Checks.maze(places, 1);
      Checks.due(31, "farthest of " + places, x.farthest(0), places < 2 ? 0 : NONE);
      Checks.due(32, "bar of " + places, x.bar(0), places < 2 ? NONE : 1);
      Checks.due(31, "farthest(1) of " + places, x.farthest(1), places < 2 ? 0 : NONE);
      for (int kind : new int[] {-1, 2, MAX, MIN}) {
        Checks.due(31, "farthest(" + kind + ") of " + places, x.farthest(kind), NONE);
        Checks.due(32, "bar(" + kind + ") of " + places, x.bar(kind), NONE);
      }
    }
    HornMaze x = Checks.maze(12, 2);
    Checks.leads(x, 0, 10, 10, 10, 10, 10, 10, 10, 10, 10, 10, 10, 11);
    Checks.leads(x, 1, 11, 11, 11, 11, 11, 11, 11, 11, 11, 11, 11, 11);
    Checks.due(32, "none: 10 comes to 11 by word 1", x.bar(0), NONE);
    x.lead(1, 10, 10);
    Checks.due(32, "the last two", x.bar(0), 12 * 10 + 11);
    Checks.due(31, "with that bar", x.farthest(0), NONE);
    x.lead(0, 0, 0);
    x.lead(1, 0, 0);
    Checks.due(32, "the first two", x.bar(0), 1);
    x.lead(0, 0, 10);
    Checks.due(32, "0 and 11 never, 0 and 10 by word 0", x.bar(0), 11);
    x.hear(1, 0, NONE);
    Checks.due(32, "kind 1 hears word 1 alone, by which 0 stays", x.bar(1), 1);
    HornMaze y = Checks.maze(12, 1);
    Checks.leads(y, 0, 1, 2, 3, 4, 5, 6, 7, 8, 9, 10, 11, 11);
    Checks.due(31, "the most words", y.farthest(0), 11);
    Checks.enforce(y, "barred");
    Checks.due(31, "all barred", y.farthest(0), NONE);
    Checks.due(32, "all barred", y.bar(1), 1);
  }

  /** "the two of a SET that MEET soonest (the first of alike ones)", "by the FIRST row". */
  private static void plods() {
    HornMaze x = Checks.maze(4, 3);
    Checks.leads(x, 0, 0, 0, 2, 3);
    Checks.leads(x, 1, 0, 0, 2, 2);
    Checks.leads(x, 2, 0, 1, 0, 3);
    // 0 and 1 by word 0 (not by word 1, which brings 2 and 3 together, too), 0 and 2 by word 2, 0 and 3 by 1 and 2.
    Checks.due(33, "the first of alike ones, by the first row", x.plod(0, 15), 4);
    Checks.due(21, "the fewest are less", x.fewest(1, 15, NONE), 2);
    Checks.due(33, "0 and 2 ahead of 2 and 3", x.plod(1, 13), 3);
    Checks.due(33, "2 and 3 alone", x.plod(1, 12), 1);
    Checks.due(33, "a single place", x.plod(0, 8), 0);
    Checks.due(33, "an empty set", x.plod(0, 0), NONE);
    for (int kind : new int[] {-1, 2, MAX, MIN}) {
      Checks.due(33, "plod(" + kind + ", 15)", x.plod(kind, 15), NONE);
      Checks.due(33, "plod(" + kind + ", 1)", x.plod(kind, 1), NONE);
    }
    x.lead(2, 2, 2);
    Checks.due(33, "no two of it can meet then", x.plod(0, 15), NONE);
    Checks.due(33, "some could at first", x.pair(0, 2, 3), 1);
    Checks.due(33, "no two at all", x.plod(0, 5), NONE);
    HornMaze y = Checks.maze(12, 1);
    Checks.leads(y, 0, 1, 2, 3, 4, 5, 6, 7, 8, 9, 10, 11, 11);
    Checks.due(33, "twelve, one by one", y.plod(0, 4095), 11);
    HornMaze z = Checks.maze(3, 0);
    z.word(1, 0);
    z.word(0, 0);
    Checks.enforce(z, "leads 0 if word = 0 and place = 1; barred if word = 1 and north = 0; "
        + "leads 0 if word = 1; barred if word = 0 and north = 1");
    Checks.due(33, "from doors as they are then", z.plod(0, 7), 2);
    Checks.enforce(z, "leads 0 if word = 0 and place = 1; barred if north = 1");
    Checks.due(33, "all is barred then", z.plod(0, 7), NONE);
    Checks.due(33, "two of it meet", z.plod(0, 3), 1);
  }

  /** "NONE (never, an empty SET, too)"; "NONE (0, never, too)". */
  private static void sights() {
    HornMaze x = Checks.maze(12, 8);
    Checks.due(34, "never", x.sight(4095), NONE);
    Checks.due(35, "never", x.ask(4095), NONE);
    for (int place = 0; place < 12; place++) {
      x.paint(place, place % 4);
    }
    Checks.due(34, "of four colours, a word must be said", x.sight(15), 1);
    Checks.due(35, "the lowest of all words", x.ask(15), 0);
    Checks.due(34, "of five", x.sight(31), NONE);
    for (int colour = 0; colour < 4; colour++) {
      Checks.due(34, "two of colour " + colour, x.sight(17 << colour), NONE);
      Checks.due(34, "two of colour " + colour + ", and others", x.sight(17 << colour | 15), NONE);
    }
    Checks.due(34, "one place", x.sight(2048), 0);
    Checks.due(35, "one place", x.ask(2048), NONE);
    x.lead(7, 4, 5);
    Checks.due(34, "0 and 4 by word 7 alone", x.sight(17), 1);
    Checks.due(35, "0 and 4 by word 7 alone", x.ask(17), 7);
    Checks.due(34, "1 and 4 are seen apart, or meet", x.sight(16 | 32), 1);
    Checks.due(35, "4 and 5: any word", x.ask(16 | 32), 0);
    Checks.due(35, "1 and 5: never", x.ask(2 | 32), NONE);
    Checks.enforce(x, "barred if word < 7");
    Checks.due(35, "the only one that is not barred", x.ask(15), 7);
    Checks.enforce(x, "barred");
    Checks.due(34, "all barred", x.sight(15), NONE);
    Checks.due(35, "all barred", x.ask(15), NONE);
    Checks.due(34, "all barred, one place", x.sight(1), 0);
    x.force(NONE);
    x.hear(1, 7, NONE);
    Checks.due(34, "of kind 0", x.sight(17), 1);
    x.hear(0, 7, 6);
    Checks.due(34, "of kind 0, which hears it otherwise", x.sight(17), NONE);
  }

  /** A lower word behind which it can never be is not the one that is told. */
  private static void neverBehindLower() {
    HornMaze x = Checks.maze(4, 2);
    Checks.leads(x, 0, 2, 3, 2, 3);
    Checks.leads(x, 1, 0, 0, 2, 3);
    Checks.due(29, "behind word 0 never", x.pair(0, 2, 3), NONE);
    Checks.due(30, "word 1 alone", x.which(0, 0, 1), 1);
    Checks.due(23, "word 1 alone", x.spell(1, 3, NONE, 0), 1);
    Checks.due(34, "by word 1", x.sight(3), 1);
    Checks.due(35, "word 1 alone", x.ask(3), 1);
    Checks.due(34, "behind word 0 never", x.sight(12), NONE);
  }

  /** Six places, words that lead here and there, a door; of each second one many sets never meet. */
  private static HornMaze drawnMaze(int number) {
    HornMaze x = Checks.maze(6, 0);
    int drawn = number * 7919 + 1;
    for (int word = 0; word < 3; word++) {
      x.word(word == 2 ? 1 : 0, word == 1 ? 1 : 0);
      for (int place = 0; place < 6; place++) {
        drawn = drawn * 1103 % 10007 + 13;
        boolean stays = number % 2 == 1 && drawn / 36 % 3 > 0;
        x.lead(word, place, word == 0 && number % 2 == 0 ? (place + 1) % 6 : stays ? place : drawn % 6);
        x.paint(place, drawn / 6 % 6 == 0 ? 1 : 0);
      }
    }
    Checks.enforce(x, "leads 0 if north = 1 and word = 0 and place = 3");
    return x;
  }

  /** What is asked behind much else is answered as it is by a new object. */
  private static void setAfterSet() {
    for (int number = 0; number < 12; number++) {
      HornMaze x = drawnMaze(number);
      for (int i = 0; i < 64; i++) {
        int set = i * 37 % 64;
        int one = i % 6;
        int other = i / 6 % 6;
        int doors = i / 4 % 2;
        String name = "maze " + number + ", set " + set + ": ";
        HornMaze y = drawnMaze(number);
        x.doors(doors);
        y.doors(doors);
        Checks.due(34, name + "sight", x.sight(set), y.sight(set));
        Checks.due(30, "maze " + number + ", which " + one + " " + other, x.which(i % 2, one, other),
            drawnWhich(number, doors, i % 2, one, other));
        Checks.due(33, name + "plod", x.plod(i % 2, set), y.plod(i % 2, set));
        Checks.due(35, name + "ask", x.ask(set), y.ask(set));
        Checks.due(28, name + "stands", x.stands(1 + i % 3, set), y.stands(1 + i % 3, set));
      }
    }
  }

  private static int drawnWhich(int number, int doors, int kind, int one, int other) {
    HornMaze x = drawnMaze(number);
    x.doors(doors);
    return x.which(kind, one, other);
  }

  public static void main(String[] args) {
    sets();
    mixes();
    rows();
    longRows();
    aims();
    manyWays();
    leftOut();
    cycles();
    barredCycles();
    traces();
    allStands();
    allDoors();
    doorBehindDoor();
    mixAfterMix();
    pairs();
    whichWord();
    bars();
    plods();
    sights();
    neverBehindLower();
    setAfterSet();
    Checks.end();
  }
}
