/** The edges that Terms II and promises 12 to 16 name. */
public final class EdgesLawTest {
  private static final int NONE = Checks.NONE;
  private static final int MAX = Checks.MAX;
  private static final int MIN = Checks.MIN;

  private static String shown(String text) {
    return text.length() < 60 ? text : text.substring(0, 25) + " .. " + text.substring(text.length() - 25);
  }

  /** A text with its FAULT; NONE: it is a law. */
  private static void reads(String text, int fault) {
    HornMaze x = new HornMaze();
    int due = fault == NONE ? 0 : -6;
    Checks.due(12, "law() of '" + shown(text) + "'", Checks.law(x, text), due);
    Checks.due(13, "fault() of '" + shown(text) + "'", x.fault(), fault);
    Checks.due(12, "count(2) behind '" + shown(text) + "'", x.count(2), fault == NONE ? 1 : 0);
    Checks.due(12, "count(6) behind '" + shown(text) + "'", x.count(6), 0);
  }

  /** "TOKENS: longest rows of letters a .. z, of digits, single other bytes, any blanks (32) between." */
  private static void bytes() {
    for (int b = 0; b < 256; b++) {
      boolean isLetter = b >= 'a' && b <= 'z';
      String sign = String.valueOf((char) b);
      reads("barred" + sign, b == ' ' ? NONE : b == ';' ? 7 : isLetter ? 0 : 6);
      reads(sign + "barred", b == ' ' ? NONE : 0);
      boolean isDigit = b >= '0' && b <= '9';
      boolean isJoiner = b == '+' || b == '-' || b == '*' || b == '/' || b == ';';
      reads("leads 7" + sign, b == ' ' || isDigit ? NONE : isJoiner ? 8 : 7);
      reads("leads" + sign + "7", b == ' ' || isDigit ? NONE : isLetter ? 0 : b == '[' ? 7 : 5);
    }
  }

  private static void tokens() {
    reads("le ads 1", 0);
    reads("leads 1 0", 8);
    reads("leads 10 00", 9);
    reads("leads 1 000", 8);
    reads("leads word2", 10);
    reads("leads 2word", 7);
    reads("leads wordplace", 6);
    reads("leads Word", 6);
    reads("LEADS 1", 0);
    reads("leads place+word-kind*colour/north+east-west", NONE);
    reads("leads  place  +  1   ", NONE);
    reads("barredif 1=1", 0);
    reads("barred if1=1and2=2or3=3", NONE);
    reads("barred ifnot1=1", 7);
    reads("barred if notnot 1=1", 10);
    reads("barred if 1=1 an d 2=2", 14);
    reads("barred if 1 < = 2", 14);
    reads("barred if 1 > 2 = 3", 16);
    for (String word : "leads barred if or and not".split(" ")) {
      reads("leads " + word, 6);
      reads("leads 1 + " + word, 10);
      reads("barred if 1 = " + word, 14);
    }
    for (String word : "if or and not word place kind colour north east west 1 [ ( ) ] = ;".split(" ")) {
      reads(word, 0);
      reads("barred; " + word, 8);
    }
  }

  /** "NUMBER (to 1,000)". */
  private static void numbers() {
    reads("leads 0", NONE);
    reads("leads 1000", NONE);
    reads("leads 1001", 6);
    reads("leads 0001000", NONE);
    reads("leads 0001001", 6);
    reads("leads 9999", 6);
    reads("leads 10000", 6);
    reads("leads 4294967296", 6);
    reads("leads 4294967297", 6);
    reads("leads 18446744073709551617", 6);
    reads("leads " + "0".repeat(390) + "1000", NONE);
    reads("leads " + "0".repeat(390) + "1001", 6);
    reads("leads " + "9".repeat(394), 6);
    reads("barred if 1 = 1001", 14);
    tells("leads " + "0".repeat(393) + "2", 2);
  }

  /** "CLAUSE {";" CLAUSE}, 12 at most (FAULT at the 13th's first TOKEN)." */
  private static void clauses() {
    String eleven = "leads 9;".repeat(11);
    reads(eleven + "leads 1", NONE);
    reads(eleven + "leads 1;", 8 * 12);
    reads(eleven + "leads 1;  ", 8 * 12 + 2);
    reads(eleven + "leads 1;leads 1", 8 * 12);
    reads(eleven + "leads 1;   barred", 8 * 12 + 3);
    reads(eleven + "leads 1; ;", 8 * 12 + 1);
    reads(eleven + "leads 1 x", 8 * 12);
    reads(eleven + "leads x", 8 * 11 + 6);
    reads(eleven, 8 * 11);
    tells(eleven + "leads 2", 2);
    tells("leads 2;" + eleven.substring(0, 8 * 10) + "barred", 0);
  }

  /** "50 PARTS that are NUMBERS and words (FAULT at the 51st)". */
  private static void parts() {
    String fortyNine = "1+".repeat(49);
    reads("leads " + fortyNine + "1", NONE);
    reads("leads " + fortyNine + "west", NONE);
    reads("leads " + fortyNine + "[1]", NONE);
    reads("leads " + fortyNine + "1+1", 6 + 100);
    reads("leads " + fortyNine + "1+ word", 6 + 101);
    reads("leads " + fortyNine + "1+[[1]]", 6 + 102);
    reads("leads " + fortyNine + "1+1001", 6 + 100);
    reads("leads " + fortyNine + "1+x", 6 + 100);
    reads("leads " + fortyNine + "1+", 6 + 100);
    reads("leads " + fortyNine + "1 if 1=1", 6 + 99 + 4);
    reads("leads " + fortyNine + "1 if not (1=1)", 6 + 99 + 9);
    reads("leads " + fortyNine + "1;barred", NONE);
    reads("leads " + fortyNine + "1;leads 1", 6 + 99 + 7);
    reads("barred if 1=1" + " or 1=1".repeat(24), NONE);
    reads("barred if 1=1" + " or 1=1".repeat(25), 13 + 24 * 7 + 4);
    reads("leads 1" + ";leads 1".repeat(11), NONE);
    HornMaze x = new HornMaze();
    Checks.due(12, "one PART too many", Checks.law(x, "leads " + fortyNine + "1+1"), -6);
    Checks.due(12, "each TEXT has its own PARTS", Checks.law(x, "leads " + fortyNine + "1"), 0);
    Checks.due(12, "and so the next", Checks.law(x, "leads " + fortyNine + "1"), 1);
    HornMaze y = Checks.maze(3, 1);
    y.image(0);
    for (int i = 0; i < 14; i++) {
      y.back(0);
      Checks.enforce(y, "leads " + "1-1+".repeat(22) + "2 if 1 = 1 or 2 = 2");
      Checks.due(15, "a long law, read for the " + i + "th time", y.goes(0, 0, 0, 0), 2);
    }
  }

  private static String within(String open, String inner, String close, int times) {
    return open.repeat(times) + inner + close.repeat(times);
  }

  /** "8 brackets of both kinds within one another (FAULT at the 9th) at most". */
  private static void brackets() {
    reads("leads " + within("[", "1", "]", 8), NONE);
    reads("leads " + within("[", "1", "]", 9), 6 + 8);
    reads("leads " + within("[ ", "1", " ]", 9), 6 + 16);
    reads("leads " + within("[1+", "1", "]", 8), NONE);
    reads("leads " + within("[1+", "1", "]", 9), 6 + 24);
    reads("leads " + within("[", "1", "]", 8) + "*" + within("[", "2", "]", 8), NONE);
    reads("leads " + within("[", "[1]+[1]", "]", 7), NONE);
    reads("leads " + within("[", "[1]+[[1]]", "]", 7), 6 + 7 + 5);
    reads("barred if " + within("(", "1=1", ")", 8), NONE);
    reads("barred if " + within("(", "1=1", ")", 9), 10 + 8);
    reads("barred if " + within("(not ", "1=1", ")", 8), NONE);
    reads("barred if " + within("not (", "1=1", ")", 9), 10 + 8 * 5 + 4);
    reads("barred if " + within("(", "1=1", ")", 8) + " and " + within("(", "1=1", ")", 8), NONE);
    for (int round = 0; round <= 8; round++) {
      String sum = within("[", "1", "]", 8 - round);
      reads("barred if " + within("(", sum + "=1", ")", round), NONE);
      reads("barred if " + within("(", "1=" + sum, ")", round), NONE);
      reads("barred if " + within("(", "[" + sum + "]=1", ")", round), 10 + 8);
      reads("barred if " + within("(", "1=[" + sum + "]", ")", round), 10 + 8 + 2);
    }
    reads("leads " + within("[", "1", "]", 8) + " if " + within("(", "1=1", ")", 8), NONE);
    reads("leads " + within("[", "1", "]", 8) + ";barred if " + within("(", "1=1", ")", 8), NONE);
    reads("barred if " + "not ".repeat(96) + "1=1", NONE);
  }

  /** "FAULT: the first TOKEN that can't go on there (the end's: the TEXT's length)." */
  private static void ends() {
    String text = "leads [ 1 + 2 ] * 3 if not ( 1 < 2 or 3 = 3 ) and 4 > 3 ; barred if 1 = 1";
    String[] whole = {"leads [ 1 + 2 ] * 3", "leads [ 1 + 2 ] * 3 if not ( 1 < 2 or 3 = 3 )",
        "leads [ 1 + 2 ] * 3 if not ( 1 < 2 or 3 = 3 ) and 4 > 3",
        "leads [ 1 + 2 ] * 3 if not ( 1 < 2 or 3 = 3 ) and 4 > 3 ; barred", "leads [ 1 + 2 ]", text};
    for (int end = 0; end <= text.length(); end++) {
      boolean isToken = end == text.length() || text.charAt(end) == ' ';
      boolean isWhole = java.util.List.of(whole).contains(text.substring(0, end));
      if (isToken) {
        reads(text.substring(0, end), isWhole ? NONE : end);
        reads(text.substring(0, end) + "   ", isWhole ? NONE : end + 3);
        reads(text.substring(0, end) + " ?", end + 1);
      }
    }
    reads("", 0);
    reads(" ", 1);
    reads(" ".repeat(400), 400);
    reads(" ".repeat(399) + "x", 399);
    reads(" ".repeat(394) + "barred", NONE);
    reads("barred" + " ".repeat(394), NONE);
    reads("leads" + " ".repeat(395), 400);
    reads("leads" + " ".repeat(394) + "1", NONE);
    reads("leads" + " ".repeat(394) + ";", 399);
    reads(";".repeat(400), 0);
    reads("(".repeat(400), 0);
    reads("leads 1" + "]".repeat(393), 7);
    reads("leads " + "[".repeat(394), 6 + 8);
    reads("leads1" + "+1".repeat(49) + "]".repeat(296), 104);
  }

  /** "LAWS, 6 at most"; "-5 (ahead of reading it; the TAPE is empty then, too)". */
  private static void laws() {
    HornMaze x = Checks.maze(12, 1);
    Checks.due(13, "fault() ahead of any", x.fault(), NONE);
    Checks.due(14, "force(0) of none", x.force(0), -2);
    for (int i = 0; i < 5; i++) {
      Checks.due(12, "law " + i, Checks.law(x, "leads " + (i + 3)), i);
    }
    x.image(0);
    Checks.due(12, "a text with a fault is no law", Checks.law(x, "leads 1 if x"), -6);
    Checks.due(13, "its fault", x.fault(), 11);
    Checks.due(14, "force(5) of five", x.force(5), -2);
    Checks.due(12, "the 6th", Checks.law(x, "leads 8"), 5);
    Checks.due(13, "fault() of a good one", x.fault(), NONE);
    Checks.due(12, "the 7th", Checks.law(x, "leads 9"), -5);
    Checks.due(12, "the tape is empty then", x.count(6), 0);
    Checks.due(12, "the 7th with a fault", Checks.law(x, "leads x"), -5);
    Checks.due(13, "it was not read", x.fault(), NONE);
    Checks.due(12, "the 7th with an empty tape", x.law(), -5);
    Checks.due(12, "count(2)", x.count(2), 6);
    Checks.due(14, "force(6)", x.force(6), -2);
    Checks.due(14, "force(-2)", x.force(-2), -2);
    Checks.due(14, "force(MAX)", x.force(MAX), -2);
    Checks.due(14, "force(MIN)", x.force(MIN), -2);
    Checks.due(14, "none is in force", x.goes(0, 0, 0, 0), 0);
    Checks.due(14, "force(5)", x.force(5), NONE);
    Checks.due(14, "the last law", x.goes(0, 0, 0, 0), 8);
    Checks.due(14, "force(0)", x.force(0), 5);
    Checks.due(14, "the first law", x.goes(0, 0, 0, 0), 3);
    Checks.due(14, "force(NONE)", x.force(NONE), 0);
    Checks.due(14, "force(NONE) again", x.force(NONE), NONE);
    Checks.due(14, "none is in force", x.goes(0, 0, 0, 0), 0);
    x.back(0);
    Checks.due(12, "there is room once more", Checks.law(x, "leads 10"), 5);
    x.force(5);
    Checks.due(12, "it is the new one", x.goes(0, 0, 0, 0), 10);
  }

  /** Where one goes from place 1 of 3 (colour 3) by word 1 of kind 1 with doors 5; LEADS tells 0 there. */
  private static void tells(String text, int want) {
    HornMaze x = Checks.maze(3, 2);
    x.paint(1, 3);
    x.lead(1, 1, 0);
    Checks.enforce(x, text);
    Checks.due(15, "goes by '" + shown(text) + "'", x.goes(1, 1, 1, 5), want);
  }

  private static void holds(String test, boolean want) {
    tells("leads 2 if " + test, want ? 2 : 0);
  }

  /** "Beyond 1,000,000,000 either way, or divided by 0, a SUM, a TEST is BROKEN; / is cut towards 0." */
  private static void broken() {
    String most = "1000*1000*1000";
    String least = "[0-1000]*1000*1000";
    holds(most + "-1 < " + most, true);
    holds(most + " > 0", true);
    holds(most + "+0 > 0", true);
    holds(most + "+1 > 0", false);
    holds(most + "+1-1 > 0", false);
    holds("not " + most + "+1 > 0", false);
    holds("0-1+" + most + "+1 > 0", true);
    holds("1+" + most + " > 0", false);
    holds(most + "*1 > 0", true);
    holds(most + "/1 > 0", true);
    holds("999*1000*1000+1000*1000 > 0", true);
    holds("999*1000*1000+1000*1000+1 > 0", false);
    holds("1000*1000*[1000+1] > 0", false);
    holds("0 < " + most + "+1", false);
    holds(least + " < 0", true);
    holds(least + "-0 < 0", true);
    holds(least + "-1 < 0", false);
    holds("0-" + most + "-1 < 0", false);
    holds("not " + least + "-1 > 0", false);
    holds(least + "*[0-1] = " + most, true);
    holds("1000*[0-1000]*[1000+1] < 0", false);
    // 65,536 times itself is 0 in 32 bits; 1,000,000,000 times itself is below 0 there.
    tells("leads 2; leads [256*256]*[256*256]", 2);
    tells("leads 2; leads [" + most + "]*[" + most + "]*0", 2);
    tells("leads 2; leads [" + most + "+1]*0", 2);
    tells("leads [" + most + "]*0+2", 2);
    tells("leads 2; leads 1/0", 2);
    tells("leads 2; leads 0/0", 2);
    tells("leads 2; leads 0/[1-1]", 2);
    tells("leads 2; leads 0*[1/east]", 2);
    tells("leads 2; leads 0/north", 0);
    holds("0/0 = 0", false);
    holds("not 0/0 = 0", false);
    holds("not not 1/0 = 1", false);
    holds("1 = 1/0", false);
    holds("[0-1]/2 = 0", true);
    holds("1/[0-2] = 0", true);
    holds("[0-7]/2 = 0-3", true);
    holds("7/[0-2] = 0-3", true);
    holds("[0-7]/[0-2] = 3", true);
    holds("[0-8]/2 = 0-4", true);
    holds("7/2*2 = 6", true);
    holds("0-7/2 = 0-3", true);
    holds("1/2+1/2 = 0", true);
    tells("leads 3-2*[" + "3-2*[".repeat(7) + "1" + "]".repeat(8), 1);
    tells("leads 3-1*[" + "3-1*[".repeat(7) + "2" + "]".repeat(8), 2);
    holds("1 = 3-2*[" + "3-2*[".repeat(7) + "1" + "]".repeat(8), true);
  }

  /** "or", "and" ask what stands behind only if it can still matter. */
  private static void asked() {
    holds("1=1 or 1/0=1", true);
    holds("1=2 or 1/0=1", false);
    holds("1/0=1 or 1=1", false);
    holds("1=1 or 1/0=1 or 1=1", true);
    holds("1=2 or 1=1 or 1/0=1", true);
    holds("not (1=2 and 1/0=1)", true);
    holds("not (1=1 and 1/0=1)", false);
    holds("not (1/0=1 and 1=2)", false);
    holds("not (1=1 and 1=2 and 1/0=1)", true);
    holds("1=2 and 1/0=1 or 1=1", true);
    holds("1=1 and 1/0=1 or 1=1", false);
    holds("1=1 or 1/0=1 and 1/0=1", true);
    holds("(1=1 or 1/0=1) and 1=1", true);
    holds("(1=2 or 1=1) and (1=1 or 1/0=1)", true);
    holds("1=1 and (1=2 or 1/0=1)", false);
    holds("not (1=1 or 1/0=1) or 1=1", true);
    holds("1=1 or 1=2 and 1=2", true);
    holds("(1=1 or 1=2) and 1=2", false);
    holds("not 1=1 or 1=1", true);
    holds("not (1=1 or 1=1)", false);
    holds("not 1=1 and 1=1", false);
    holds("1=1 and not 1=1", false);
    holds("not (not (1=1))", true);
    holds("not not 1=1", true);
    holds("not not not 1=1", false);
    holds("not not not 1=2 and not 1=2", true);
    holds("2<2", false);
    holds("1<2", true);
    holds("2>2", false);
    holds("2>1", true);
    holds("2=2", true);
    holds("not 2=2", false);
  }

  /** "What the last CLAUSE with it that HOLDS tells"; "if that is a PLACE that is there, else where it LEADS". */
  private static void last() {
    tells("barred", 0);
    tells("leads 2", 2);
    tells("leads 3", 0);
    tells("leads 0-1", 0);
    tells("leads 1; leads 2", 2);
    tells("leads 2; leads 3", 0);
    tells("leads 2; leads 0-1", 0);
    tells("leads 2; leads 1000*1000*1000", 0);
    tells("leads 2; leads 1 if 1=2", 2);
    tells("leads 2; leads 1 if 1/0=1", 2);
    tells("leads 2; leads 1/0 if 1=1", 2);
    tells("leads 2; leads 1/0 if 1=2", 2);
    tells("leads 2; barred", 2);
    tells("leads 2 if north=1 and east=0 and west=1", 2);
    tells("leads 2 if word=1 and place=1 and kind=1 and colour=3", 2);
    HornMaze x = Checks.maze(11, 1);
    x.lead(0, 0, 4);
    Checks.enforce(x, "leads 11");
    Checks.due(15, "place 11 is not there", x.goes(0, 0, 0, 0), 4);
    Checks.due(21, "nor is it for a search", x.fewest(1, 1, 4), 1);
    x.place(0);
    Checks.due(15, "place 11 is there", x.goes(0, 0, 0, 0), 11);
    Checks.due(21, "and for a search", x.fewest(1, 1, 4), NONE);
    x.hear(0, 0, NONE);
    Checks.due(15, "who does not hear it stays", x.goes(0, 0, 0, 0), 0);
    Checks.due(15, "the other kind does not", x.goes(1, 0, 0, 0), 11);
  }

  /** "north, east, west: whether DOOR 0, 1, 2 is open (1, 0)", to a walker and to a word. */
  private static void facts() {
    HornMaze x = Checks.maze(8, 8);
    Checks.enforce(x, "leads north + 2*east + 4*west; barred if north + 2*east + 4*west = word");
    for (int doors = 0; doors < 8; doors++) {
      Checks.due(15, "goes(0, 0, 3, " + doors + ")", x.goes(0, 0, 3, doors), doors);
      for (int word = 0; word < 8; word++) {
        Checks.due(16, "barred(" + word + ", " + doors + ")", x.barred(word, doors), word == doors ? 1 : 0);
      }
    }
    int[][] bad = {{-1, 0}, {8, 0}, {0, -1}, {0, 8}, {MAX, 0}, {MIN, 0}, {0, MAX}, {0, MIN}};
    for (int[] n : bad) {
      Checks.due(16, "barred(" + n[0] + ", " + n[1] + ")", x.barred(n[0], n[1]), NONE);
      Checks.due(15, "goes by word " + n[0] + " with doors " + n[1], x.goes(0, n[0], 0, n[1]), NONE);
      Checks.due(15, "goes from " + n[0] + " with doors " + n[1], x.goes(0, 0, n[0], n[1]), NONE);
    }
    Checks.due(15, "goes of kind -1", x.goes(-1, 0, 0, 0), NONE);
    Checks.due(15, "goes of kind 1", x.goes(1, 7, 7, 7), 7);
    Checks.due(15, "goes of kind 2", x.goes(2, 0, 0, 0), NONE);
  }

  private static void bars(String text, int word, int doors, int want) {
    HornMaze x = Checks.maze(2, 3);
    x.paint(0, 3);
    x.hear(0, 1, 2);
    x.hear(1, 1, 2);
    Checks.enforce(x, text);
    Checks.due(16, "barred(" + word + ", " + doors + ") by '" + text + "'", x.barred(word, doors), want);
  }

  /** "It is BARRED, if a CLAUSE "barred" HOLDS (word as it is said, DOORS; all else 0)." */
  private static void barred() {
    bars("leads 1", 0, 0, 0);
    bars("barred", 2, 7, 1);
    bars("barred if place + kind + colour > 0", 0, 0, 0);
    bars("barred if place + kind + colour = 0", 0, 0, 1);
    bars("barred if word = 1", 1, 0, 1);
    bars("barred if word = 2", 1, 0, 0);
    bars("barred if 1/0 = 1", 0, 0, 0);
    bars("barred if not 1/0 = 1", 0, 0, 0);
    bars("barred; barred if 1 = 2", 0, 0, 1);
    bars("barred if 1 = 2; barred", 0, 0, 1);
    bars("barred if 1/0 = 1; barred if 1 = 1", 0, 0, 1);
    bars("barred; leads 1/0", 0, 0, 1);
    bars("leads 1; barred if west = 1; leads 0", 0, 4, 1);
    bars("leads 1; barred if west = 1; leads 0", 0, 3, 0);
    HornMaze x = Checks.maze(1, 1);
    Checks.law(x, "barred");
    Checks.due(16, "a law that is not in force", x.barred(0, 0), 0);
    for (String fact : "place kind colour".split(" ")) {
      HornMaze y = Checks.maze(4, 2);
      y.paint(3, 3);
      Checks.enforce(y, "leads 2; barred if " + fact + " > 0");
      Checks.due(15, "goes ahead", y.goes(1, 1, 3, 0), 2);
      Checks.due(16, fact + " of who went ahead is no matter", y.barred(1, 0), 0);
      Checks.enforce(y, "leads 2 if " + fact + " > 0");
      Checks.due(16, "barred ahead", y.barred(1, 0), 0);
      Checks.due(15, fact + " is that of who goes", y.goes(1, 1, 3, 0), 2);
    }
  }

  public static void main(String[] args) {
    bytes();
    tokens();
    numbers();
    clauses();
    parts();
    brackets();
    ends();
    laws();
    broken();
    asked();
    last();
    facts();
    barred();
    Checks.end();
  }
}
