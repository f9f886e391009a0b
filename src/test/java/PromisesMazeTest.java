/** Promises 1 to 18: the maze, the tape, laws, the row. */
public final class PromisesMazeTest {
  private static final int NONE = Checks.NONE;
  private static final int MAX = Checks.MAX;
  private static final int MIN = Checks.MIN;

  private static void promise1() {
    HornMaze x = new HornMaze();
    for (int what : new int[] {0, 1, 2, 3, 4, 5, 6, 7, 8, 9, 10, 11, 13}) {
      Checks.due(1, "count(" + what + ")", x.count(what), 0);
    }
    Checks.due(1, "count(12)", x.count(12), NONE);
    Checks.due(1, "kth(-1)", x.kth(-1), 0);
    Checks.due(1, "where(0)", x.where(0), NONE);
    Checks.due(1, "goes(0, 0, 0, 0)", x.goes(0, 0, 0, 0), NONE);
    Checks.due(1, "fault()", x.fault(), NONE);
    Checks.due(1, "drawn(-1)", x.drawn(-1), NONE);
    HornMaze y = new HornMaze();
    x.place(0);
    Checks.due(1, "another object is not touched: count(0)", y.count(0), 0);
  }

  private static void promise2() {
    HornMaze x = new HornMaze();
    for (int colour : new int[] {-1, 4, MAX, MIN}) {
      Checks.refused(2, "place(" + colour + ")", x, () -> x.place(colour), -1);
    }
    for (int i = 0; i < 12; i++) {
      Checks.due(2, "place " + i, x.place(i % 4), i);
      Checks.due(2, "its status", x.status(), 0);
    }
    Checks.due(2, "count(0)", x.count(0), 12);
    Checks.refused(2, "a 13th place", x, () -> x.place(0), -5);
    Checks.refused(2, "a 13th place of no colour", x, () -> x.place(4), -1);
    Checks.due(2, "count(0) behind that", x.count(0), 12);
    Checks.due(2, "the colour it was made with", x.paint(7, 0), 3);
  }

  private static void promise3() {
    HornMaze x = Checks.maze(2, 0);
    Checks.due(3, "paint(1, 3)", x.paint(1, 3), 0);
    Checks.due(3, "paint(1, 0)", x.paint(1, 0), 3);
    Checks.due(3, "status", x.status(), 0);
    Checks.refused(3, "paint(0, 4)", x, () -> x.paint(0, 4), -1);
    Checks.refused(3, "paint(0, -1)", x, () -> x.paint(0, -1), -1);
    Checks.refused(3, "paint(2, 0)", x, () -> x.paint(2, 0), -2);
    Checks.refused(3, "paint(-1, 0)", x, () -> x.paint(-1, 0), -2);
    Checks.refused(3, "paint(2, 4): -1 comes ahead", x, () -> x.paint(2, 4), -1);
    Checks.due(3, "nothing changed", x.paint(0, 2), 0);
    x.word(0, 0);
    Checks.enforce(x, "leads 1 if colour = 2");
    Checks.due(3, "a law sees the colour", x.goes(0, 0, 0, 0), 1);
    Checks.due(3, "the fewest, ahead", x.fewest(1, 3, NONE), 1);
    x.paint(0, 1);
    Checks.due(3, "the fewest, painted otherwise", x.fewest(1, 3, NONE), NONE);
  }

  private static void promise4() {
    HornMaze x = new HornMaze();
    int[][] bad = {{8, 0}, {0, 8}, {-1, 0}, {0, -1}, {MAX, MIN}};
    for (int[] bits : bad) {
      Checks.refused(4, "word(" + bits[0] + ", " + bits[1] + ")", x, () -> x.word(bits[0], bits[1]), -1);
    }
    for (int i = 0; i < 8; i++) {
      Checks.due(4, "word " + i, x.word(i, 7 - i), i);
    }
    Checks.refused(4, "a 9th word", x, () -> x.word(0, 0), -5);
    Checks.refused(4, "a 9th word with doors 8", x, () -> x.word(8, 0), -1);
    Checks.due(4, "count(1)", x.count(1), 8);
    HornMaze y = new HornMaze();
    y.word(3, 6);
    y.doors(4);
    y.say(0);
    Checks.due(4, "it opens, then it shuts", y.count(13), 1);
  }

  private static void promise5() {
    HornMaze x = Checks.maze(3, 2);
    Checks.due(5, "to itself at first", x.goes(0, 1, 2, 0), 2);
    Checks.due(5, "lead(1, 2, 0)", x.lead(1, 2, 0), 2);
    Checks.due(5, "lead(1, 2, 1)", x.lead(1, 2, 1), 0);
    Checks.due(5, "goes(0, 1, 2, 0)", x.goes(0, 1, 2, 0), 1);
    Checks.due(5, "goes by the other word", x.goes(0, 0, 2, 0), 2);
    int[][] bad = {{2, 0, 0}, {-1, 0, 0}, {0, 3, 0}, {0, -1, 0}, {0, 0, 3}, {0, 0, -1}, {MAX, MAX, MAX}};
    for (int[] n : bad) {
      Checks.refused(5, "lead(" + n[0] + ", " + n[1] + ", " + n[2] + ")", x, () -> x.lead(n[0], n[1], n[2]), -2);
    }
    Checks.due(5, "a place that comes later", x.place(0), 3);
    Checks.due(5, "leads to itself", x.lead(0, 3, 0), 3);
  }

  private static void promise6() {
    HornMaze x = Checks.maze(3, 2);
    Checks.leads(x, 0, 1, 2, 0);
    Checks.leads(x, 1, 2, 2, 2);
    Checks.due(6, "hear(1, 0, 1)", x.hear(1, 0, 1), 0);
    Checks.due(6, "kind 1 hears 0 as 1", x.goes(1, 0, 0, 0), 2);
    Checks.due(6, "kind 0 as ever", x.goes(0, 0, 0, 0), 1);
    Checks.due(6, "hear(1, 0, NONE)", x.hear(1, 0, NONE), 1);
    Checks.due(6, "kind 1 stays", x.goes(1, 0, 0, 0), 0);
    Checks.due(6, "hear(1, 0, 0)", x.hear(1, 0, 0), NONE);
    Checks.due(6, "status, though it was NONE", x.status(), 0);
    Checks.due(6, "hear(0, 1, 0)", x.hear(0, 1, 0), 1);
    Checks.due(6, "as one word's number, not its ear: 1 is heard as 0", x.goes(0, 1, 0, 0), 1);
    Checks.refused(6, "hear(2, 0, 0)", x, () -> x.hear(2, 0, 0), -1);
    Checks.refused(6, "hear(-1, 9, 0)", x, () -> x.hear(-1, 9, 0), -1);
    Checks.refused(6, "hear(0, 2, 0)", x, () -> x.hear(0, 2, 0), -2);
    Checks.refused(6, "hear(0, -1, 0)", x, () -> x.hear(0, -1, 0), -2);
    Checks.refused(6, "hear(0, 0, 2)", x, () -> x.hear(0, 0, 2), -2);
    Checks.refused(6, "hear(0, 0, -2)", x, () -> x.hear(0, 0, -2), -2);
  }

  private static void promise6Doors() {
    HornMaze x = new HornMaze();
    x.place(0);
    x.word(1, 0);
    x.word(2, 0);
    x.hear(0, 0, 1);
    x.walker(0, 0);
    x.say(0);
    Checks.due(6, "doors are moved by the word as it was said", x.count(13), 1);
    x.hear(0, 1, NONE);
    x.say(1);
    Checks.due(6, "also if nobody hears it", x.count(13), 3);
  }

  private static void promise7() {
    HornMaze x = new HornMaze();
    Checks.due(7, "doors(5)", x.doors(5), 0);
    Checks.due(7, "doors(7)", x.doors(7), 5);
    Checks.refused(7, "doors(8)", x, () -> x.doors(8), -1);
    Checks.refused(7, "doors(-1)", x, () -> x.doors(-1), -1);
    Checks.due(7, "count(13)", x.count(13), 7);
    Checks.due(7, "doors(0)", x.doors(0), 7);
  }

  private static void promise8() {
    HornMaze x = Checks.maze(12, 1);
    Checks.due(8, "feed", x.feed(0x01020304, 0x05060708, 0x090A0B00, 0x000000FF, -1), 20);
    Checks.due(8, "count(6)", x.count(6), 20);
    Checks.due(8, "the highest byte first", x.row(0), 12);
    Checks.due(8, "the other eight", x.stray(), 8);
    Checks.due(8, "goes from 3", x.goes(0, 0, 3, 0), 4);
    Checks.due(8, "goes from 11", x.goes(0, 0, 11, 0), 0);
    for (int i = 1; i <= 20; i++) {
      Checks.due(8, "feed " + i, x.feed(0, 0, 0, 0, 0), 20 * i);
    }
    Checks.due(8, "more than 400", x.feed(0, 0, 0, 0, 0), NONE);
    Checks.due(8, "it stays at 400", x.count(6), 400);
    x.end(381);
    Checks.due(8, "401 would be", x.feed(0, 0, 0, 0, 0), NONE);
    x.end(380);
    Checks.due(8, "400 would be", x.feed(0, 0, 0, 0, 0), 400);
    Checks.due(8, "it is never refused", x.status(), 0);
  }

  private static void promise9() {
    HornMaze x = new HornMaze();
    Checks.due(9, "end(0)", x.end(0), 0);
    Checks.due(9, "end(1)", x.end(1), NONE);
    x.feed(1, 2, 3, 4, 5);
    Checks.due(9, "end(21)", x.end(21), NONE);
    Checks.due(9, "end(-1)", x.end(-1), NONE);
    Checks.due(9, "count(6)", x.count(6), 20);
    Checks.due(9, "end(20)", x.end(20), 20);
    Checks.due(9, "end(7)", x.end(7), 7);
    Checks.due(9, "count(6) then", x.count(6), 7);
    Checks.due(9, "feed behind it", x.feed(0, 0, 0, 0, 0), 27);
  }

  private static void promises10And11() {
    HornMaze x = Checks.maze(4, 2);
    Checks.due(11, "stray() ahead of any", x.stray(), 0);
    Checks.refused(10, "row(0) of an empty tape", x, () -> x.row(0), -6);
    Checks.refused(10, "row(2) of an empty tape", x, () -> x.row(2), -2);
    Checks.feed(x, "\1\1\t\3\2");
    Checks.refused(10, "row(2)", x, () -> x.row(2), -2);
    Checks.refused(10, "row(-1)", x, () -> x.row(-1), -2);
    Checks.due(10, "the tape stays", x.count(6), 5);
    Checks.due(11, "stray() as it was", x.stray(), 0);
    Checks.due(10, "row(1)", x.row(1), 3);
    Checks.due(11, "stray()", x.stray(), 2);
    Checks.due(10, "the tape is empty then", x.count(6), 0);
    int[] to = {1, 1, 2, 3};
    for (int i = 0; i < 4; i++) {
      Checks.due(10, "goes from " + i, x.goes(0, 1, i, 0), to[i]);
      Checks.due(10, "the other word from " + i, x.goes(0, 0, i, 0), i);
    }
    Checks.refused(11, "row(1), refused", x, () -> x.row(1), -6);
    Checks.due(11, "stray() of the latest not refused", x.stray(), 2);
    Checks.feed(x, "\3");
    Checks.due(10, "a short row", x.row(1), 1);
    Checks.due(11, "stray() then", x.stray(), 0);
    Checks.due(10, "goes from 0", x.goes(0, 1, 0, 0), 3);
    Checks.due(10, "goes from 1 as it was", x.goes(0, 1, 1, 0), 1);
    Checks.feed(x, "\4\u00ff");
    Checks.due(10, "none comes", x.row(0), 0);
    Checks.due(11, "all stray", x.stray(), 2);
    Checks.due(10, "the search hears of rows", x.fewest(1, 9, NONE), 1);
    Checks.feed(x, "\0\1\2\3");
    x.row(1);
    Checks.due(10, "and of later ones", x.fewest(1, 9, NONE), NONE);
  }

  private static void fault(String text, int want) {
    HornMaze x = new HornMaze();
    Checks.feed(x, text);
    Checks.refused(12, "law() of '" + text + "'", x, x::law, -6);
    Checks.due(13, "fault() of '" + text + "'", x.fault(), want);
    Checks.due(12, "the tape then", x.count(6), 0);
    Checks.due(12, "count(2) then", x.count(2), 0);
  }

  private static void good(String text) {
    HornMaze x = new HornMaze();
    Checks.due(12, "law() of '" + text + "'", Checks.law(x, text), 0);
    Checks.due(13, "fault() of '" + text + "'", x.fault(), NONE);
  }

  private static void promises12And13() {
    HornMaze x = new HornMaze();
    Checks.due(13, "fault() ahead of any", x.fault(), NONE);
    Checks.due(12, "the first", Checks.law(x, "barred"), 0);
    Checks.due(12, "the tape then", x.count(6), 0);
    Checks.feed(x, "leads x");
    Checks.refused(12, "a bad one", x, x::law, -6);
    Checks.due(13, "its fault", x.fault(), 6);
    for (int i = 1; i < 6; i++) {
      Checks.due(12, "law " + i, Checks.law(x, "leads 1"), i);
      Checks.due(13, "no fault", x.fault(), NONE);
    }
    Checks.feed(x, "leads x");
    Checks.refused(12, "no room, ahead of reading", x, x::law, -5);
    Checks.due(12, "the tape is empty then, too", x.count(6), 0);
    Checks.due(13, "fault() of the latest that read a text", x.fault(), NONE);
    Checks.due(12, "count(2)", x.count(2), 6);
    Checks.refused(12, "no room with an empty tape", x, x::law, -5);
  }

  private static void faults() {
    fault("", 0);
    fault("   ", 3);
    fault("leads", 5);
    fault("leads  ", 7);
    fault("x", 0);
    fault(" Leads 1", 1);
    fault("lead 1", 0);
    fault("leadsx 1", 0);
    fault("leadsz 1", 0);
    fault("barreda", 0);
    fault("barred{", 6);
    fault("barred`", 6);
    fault("leads 1/", 8);
    fault("leads 1:", 7);
    fault("barreds", 0);
    fault("barred barred", 7);
    fault("barred;", 7);
    fault("barred; ", 8);
    fault(";barred", 0);
    fault("barred;;barred", 7);
    fault("leads 1001", 6);
    fault("leads 99999999999999999999", 6);
    fault("leads 4294967297", 6);
    fault("leads - 1", 6);
    fault("leads 1 2", 8);
    fault("leads 1 +", 9);
    fault("leads 1 + * 2", 10);
    fault("leads (1)", 6);
    fault("leads [1", 8);
    fault("leads [1)", 8);
    fault("leads [1 = 2]", 9);
    fault("leads 1]", 7);
    fault("leads word\tplace", 10);
    fault("leads \u00e9", 6);
    fault("leads 1 if", 10);
    fault("leads 1 if 1", 12);
    fault("leads 1 if 1 < ", 15);
    fault("leads 1 if 1 < 2 < 3", 17);
    fault("leads 1 if 1 == 2", 14);
    fault("leads 1 if not", 14);
    fault("leads 1 if 1 not = 2", 13);
    fault("leads 1 if (1 = 1", 17);
    fault("leads 1 if (1) = 1", 13);
    fault("leads 1 if [1 = 1]", 14);
    fault("leads 1 if 1 = 1 or", 19);
    fault("leads 1 if 1 = 1 and or", 21);
    fault("leads 1 if 1 = 1 if 1 = 1", 17);
    fault("barred 1", 7);
    fault("leads if 1 = 1", 6);
    fault("leads north + south", 14);
  }

  private static void goods() {
    good("barred");
    good("  barred  ");
    good("leads 1000");
    good("leads 0001000");
    good("leads1");
    good("leads1if1=1or2=2and3=3");
    good("leads[word+place]*kind-colour/north");
    good("barred if not not not 1 = 1");
    good("barred if not (1 = 1 or not (2 < 3 and east > west))");
    good("leads 1 if [1] = [[2]]");
  }

  private static void limits() {
    good("barred" + ";barred".repeat(11));
    fault("barred" + ";barred".repeat(12), 84);
    fault("barred" + ";barred".repeat(11) + ";  x", 86);
    fault("barred" + ";barred".repeat(11) + "; ", 85);
    good("leads " + "1+".repeat(49) + "1");
    fault("leads " + "1+".repeat(50) + "1", 106);
    fault("leads " + "1+".repeat(50) + "word", 106);
    good("leads " + "1+".repeat(24) + "kind if " + "1+".repeat(23) + "1=1");
    fault("leads " + "1+".repeat(24) + "kind;leads " + "1+".repeat(25) + "1", 6 + 48 + 4 + 7 + 50);
    good("leads " + "[".repeat(8) + "1" + "]".repeat(8));
    fault("leads " + "[".repeat(9) + "1" + "]".repeat(9), 14);
    good("leads " + "[".repeat(8) + "1" + "]".repeat(8) + "+" + "[".repeat(8) + "1" + "]".repeat(8));
    good("barred if " + "(".repeat(8) + "1=1" + ")".repeat(8));
    fault("barred if " + "(".repeat(9) + "1=1" + ")".repeat(9), 18);
    good("barred if " + "(".repeat(5) + "[[[1]]]=1" + ")".repeat(5));
    fault("barred if " + "(".repeat(5) + "[[[[1]]]]=1" + ")".repeat(5), 18);
    good("barred if " + "not ".repeat(90) + "1=1");
  }

  private static void promise14() {
    HornMaze x = Checks.maze(2, 1);
    Checks.law(x, "leads 1");
    Checks.law(x, "leads 0");
    Checks.due(14, "none is in force at first", x.goes(0, 0, 0, 0), 0);
    Checks.due(14, "force(0)", x.force(0), NONE);
    Checks.due(14, "status, though it was NONE", x.status(), 0);
    Checks.due(14, "goes", x.goes(0, 0, 0, 0), 1);
    Checks.due(14, "force(1)", x.force(1), 0);
    Checks.due(14, "goes then", x.goes(0, 0, 1, 0), 0);
    Checks.refused(14, "force(2)", x, () -> x.force(2), -2);
    Checks.refused(14, "force(-2)", x, () -> x.force(-2), -2);
    Checks.due(14, "count(12)", x.count(12), 1);
    Checks.due(14, "force(NONE)", x.force(NONE), 1);
    Checks.due(14, "none is in force", x.goes(0, 0, 1, 0), 1);
    Checks.due(14, "count(12) then", x.count(12), NONE);
  }

  /** Where one goes from place 2 of 4 (colour 3) by word 1 of kind 1 with doors 5, with this law. */
  private static void tells(String text, int want) {
    HornMaze x = Checks.maze(4, 2);
    x.paint(2, 3);
    x.lead(1, 2, 0);
    Checks.enforce(x, text);
    Checks.due(15, "goes by '" + text + "'", x.goes(1, 1, 2, 5), want);
  }

  private static void promise15() {
    tells("barred if 1 = 2", 0);
    tells("leads 3", 3);
    tells("leads 4", 0);
    tells("leads 0 - 1", 0);
    tells("leads word", 1);
    tells("leads place", 2);
    tells("leads kind", 1);
    tells("leads colour", 3);
    tells("leads 3 if north = 1 and east = 0 and west = 1", 3);
    tells("leads 3 - 1 - 1", 1);
    tells("leads 1 + 2 * 3 - 4", 3);
    tells("leads [1 + 2] * 3 - 7", 2);
    tells("leads 12 / 3 / 2", 2);
    tells("leads [0 - 7] / 2 + 5", 2);
    tells("leads [0 - 7] / [0 - 2]", 3);
    tells("leads 7 / 2", 3);
    tells("leads 1; leads 2", 2);
    tells("leads 1; leads 2 if 1 = 2", 1);
    tells("leads 1; leads 9", 0);
    tells("leads 1; leads 2 / 0", 1);
    tells("leads 1; leads 2 if 1 / 0 = 1", 1);
    tells("leads 1; leads 2 if not 1 / 0 = 1", 1);
    tells("leads 1; leads 2 if 1 = 1 or 1 / 0 = 1", 2);
    tells("leads 1; leads 2 if 1 / 0 = 1 or 1 = 1", 1);
    tells("leads 1; leads 2 if not (1 = 2 and 1 / 0 = 1)", 2);
    tells("leads 1; leads 2 if 1 = 1 or 1 = 1 and 1 = 2", 2);
    tells("leads 1; leads 2 if (1 = 1 or 1 = 1) and 1 = 2", 1);
    tells("leads 1; leads 2 if not 1 = 2 or 1 = 1", 2);
    tells("leads 1; leads 2 if not 1 = 1 and 1 = 2", 1);
    tells("leads 1; leads 2 if 1 < 2 and 2 > 1 and not 2 < 2 and not 2 > 2", 2);
    tells("leads 1; leads 1000 * 1000 * 1000 / 1000 / 1000 / 500", 2);
    tells("leads 1; leads 2 if 1000 * 1000 * 1000 > 0", 2);
    tells("leads 1; leads 2 if 1000 * 1000 * 1000 + 1 > 0", 1);
    tells("leads 1; leads 2 if 0 - 1000 * 1000 * 1000 < 0", 2);
    tells("leads 1; leads 2 if 0 - 1000 * 1000 * 1000 - 1 < 0", 1);
    tells("leads 1; leads 2 * [1000 * 1000 * 1000] / 1000 / 1000 / 1000", 1);
    tells("leads 1; leads [1000 * 1000 * 1000] * [1000 * 1000 * 1000] * 1000", 1);
    HornMaze x = Checks.maze(3, 1);
    int[][] bad = {{2, 0, 0, 0}, {-1, 0, 0, 0}, {0, 1, 0, 0}, {0, -1, 0, 0}, {0, 0, 3, 0}, {0, 0, -1, 0}, {0, 0, 0, 8},
        {0, 0, 0, -1}, {MAX, MIN, MAX, MIN}};
    for (int[] n : bad) {
      Checks.due(15, "goes with a number that can't be", x.goes(n[0], n[1], n[2], n[3]), NONE);
    }
    Checks.due(15, "it is never refused", x.count(7) + x.count(8), 0);
  }

  private static void promise15Heard() {
    HornMaze x = Checks.maze(4, 2);
    Checks.leads(x, 1, 3, 3, 3, 3);
    x.hear(1, 0, 1);
    x.hear(0, 0, NONE);
    Checks.enforce(x, "leads word + 1 if place = 0; barred");
    Checks.due(15, "the law hears the word as heard", x.goes(1, 0, 0, 0), 2);
    Checks.due(15, "the table is that of the word as heard", x.goes(1, 0, 1, 0), 3);
    Checks.due(15, "who hears nothing stays", x.goes(0, 0, 0, 0), 0);
    Checks.due(15, "though it is barred", x.barred(0, 0), 1);
  }

  private static void promise16() {
    HornMaze x = Checks.maze(2, 3);
    Checks.due(16, "no law", x.barred(0, 0), 0);
    x.hear(0, 1, 0);
    x.hear(1, 1, 0);
    x.paint(0, 3);
    x.paint(1, 3);
    Checks.enforce(x, "barred if word = 1 and east = 1; barred if word = 2 and north = 1 or west > 1 / [2 - word]");
    Checks.due(16, "the word as it is said", x.barred(1, 2), 1);
    Checks.due(16, "barred(0, 2)", x.barred(0, 2), 0);
    Checks.due(16, "barred(1, 1)", x.barred(1, 1), 0);
    Checks.due(16, "barred(2, 1)", x.barred(2, 1), 1);
    Checks.due(16, "a broken test", x.barred(2, 4), 0);
    Checks.due(16, "west is bit 2", x.barred(0, 4), 1);
    Checks.enforce(x, "barred if place + kind + colour > 0");
    Checks.due(16, "all else is 0", x.barred(0, 7), 0);
    Checks.enforce(x, "leads 1");
    Checks.due(16, "leads bars nothing", x.barred(0, 0), 0);
    int[][] bad = {{3, 0}, {-1, 0}, {0, 8}, {0, -1}, {MAX, MAX}, {MIN, MIN}};
    for (int[] n : bad) {
      Checks.due(16, "barred(" + n[0] + ", " + n[1] + ")", x.barred(n[0], n[1]), NONE);
    }
  }

  private static void promises17And18() {
    HornMaze x = Checks.maze(1, 2);
    Checks.due(18, "tear() of nothing", x.tear(), 0);
    Checks.refused(17, "call(2)", x, () -> x.call(2), -2);
    Checks.refused(17, "call(-1)", x, () -> x.call(-1), -2);
    for (int i = 1; i <= 60; i++) {
      Checks.due(17, "call " + i, x.call(i % 2), i);
    }
    Checks.refused(17, "a 61st", x, () -> x.call(0), -5);
    Checks.refused(17, "a 61st that is no word", x, () -> x.call(2), -2);
    Checks.due(17, "count(3)", x.count(3), 60);
    Checks.due(18, "tear()", x.tear(), 60);
    Checks.due(18, "tear() again", x.tear(), 0);
    Checks.due(18, "tear() is no call that status tells of", x.status(), -2);
    Checks.due(17, "call then", x.call(1), 1);
  }

  public static void main(String[] args) {
    promise1();
    promise2();
    promise3();
    promise4();
    promise5();
    promise6();
    promise6Doors();
    promise7();
    promise8();
    promise9();
    promises10And11();
    promises12And13();
    faults();
    goods();
    limits();
    promise14();
    promise15();
    promise15Heard();
    promise16();
    promises17And18();
    Checks.end();
  }
}
