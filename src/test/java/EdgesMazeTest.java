/** The edges that Terms I and promises 1 to 11, 17 and 18 name: the last that is granted, the first that is not. */
public final class EdgesMazeTest {
  private static final int NONE = Checks.NONE;
  private static final int MAX = Checks.MAX;
  private static final int MIN = Checks.MIN;

  /** Promise 1: what a maze without anything answers. */
  private static void nothing() {
    HornMaze x = new HornMaze();
    for (int mix = 1; mix <= 3; mix++) {
      Checks.due(1, "after(" + mix + ", 0, 0)", x.after(mix, 0, 0), 0);
      Checks.due(1, "after(" + mix + ", 0, 1)", x.after(mix, 0, 1), NONE);
      Checks.due(1, "after(" + mix + ", 1, 0)", x.after(mix, 1, 0), NONE);
      Checks.due(1, "fewest(" + mix + ", 0, NONE)", x.fewest(mix, 0, NONE), NONE);
      Checks.due(1, "fewest(" + mix + ", 0, 0)", x.fewest(mix, 0, 0), NONE);
      Checks.due(1, "ways(" + mix + ", 0, NONE)", x.ways(mix, 0, NONE), 0);
      Checks.due(1, "ways(" + mix + ", 0, 0)", x.ways(mix, 0, 0), NONE);
      Checks.due(1, "spell(" + mix + ", 0, NONE, 0)", x.spell(mix, 0, NONE, 0), NONE);
      Checks.due(1, "without(" + mix + ", 0, 0)", x.without(mix, 0, 0), NONE);
      Checks.due(1, "spare(" + mix + ", 0)", x.spare(mix, 0), NONE);
      Checks.due(1, "cycle(" + mix + ", 0, 0)", x.cycle(mix, 0, 0), NONE);
      Checks.due(1, "stands(" + mix + ", 0)", x.stands(mix, 0), 1);
    }
    for (int kind = 0; kind <= 1; kind++) {
      Checks.due(1, "pair", x.pair(kind, 0, 0), NONE);
      Checks.due(1, "which", x.which(kind, 0, 0), NONE);
      Checks.due(1, "farthest", x.farthest(kind), 0);
      Checks.due(1, "bar", x.bar(kind), NONE);
      Checks.due(1, "plod", x.plod(kind, 0), NONE);
    }
    Checks.due(1, "open(0)", x.open(0), 0);
    Checks.due(1, "open(1)", x.open(1), NONE);
    Checks.due(1, "trace(0, 0, 0)", x.trace(0, 0, 0), 0);
    Checks.due(1, "sight(0)", x.sight(0), NONE);
    Checks.due(1, "ask(0)", x.ask(0), NONE);
    Checks.due(1, "barred(0, 0)", x.barred(0, 0), NONE);
    nothingKept(x);
  }

  private static void nothingKept(HornMaze x) {
    Checks.due(1, "held(0)", x.held(0), 0);
    Checks.due(1, "kth(0)", x.kth(0), NONE);
    Checks.due(1, "kth(NONE)", x.kth(NONE), 0);
    Checks.due(1, "rank(4095)", x.rank(4095), 0);
    Checks.due(1, "about(4095, 0)", x.about(4095, 0), 0);
    Checks.due(1, "about(0, 1)", x.about(0, 1), 0);
    Checks.due(1, "about(0, 2)", x.about(0, 2), NONE);
    Checks.due(1, "near(0, 0)", x.near(0, 0), NONE);
    Checks.due(1, "near(0, 1)", x.near(0, 1), NONE);
    Checks.due(1, "between(0, 4095)", x.between(0, 4095), 0);
    Checks.due(1, "drawn(0)", x.drawn(0), NONE);
    Checks.due(1, "stray()", x.stray(), 0);
    Checks.due(1, "status()", x.status(), 0);
    Checks.due(1, "end(0)", x.end(0), 0);
    Checks.due(1, "tear()", x.tear(), 0);
    Checks.due(1, "doors(0): none is open at first", x.doors(0), 0);
    Checks.due(1, "force(NONE): none is in force at first", x.force(NONE), NONE);
    Checks.due(1, "horn(0, 200): it ends at once", x.horn(0, 200), 0);
    Checks.due(1, "drawn(NONE) behind it", x.drawn(NONE), 0);
    Checks.due(1, "image(1)", x.image(1), 0);
    Checks.due(1, "back(1)", x.back(1), 0);
  }

  /** "An object is used for at most 512 calls": the 512th is still answered. */
  private static void lastCall() {
    HornMaze x = new HornMaze();
    for (int i = 1; i < 512; i++) {
      Checks.due(1, "call " + i, x.doors(i % 8), (i - 1) % 8);
    }
    Checks.due(1, "call 512", x.doors(0), 511 % 8);
    HornMaze y = Checks.cerny(5);
    int made = 5 + 2 + 5 + 1;
    for (; made + 4 <= 512; made += 4) {
      y.lead(1, 1, made % 3 == 0 ? 2 : 1);
      y.fewest(1, 31, NONE);
      y.image(0);
      y.lead(1, 1, 1);
    }
    Checks.due(1, "a search among the last", y.fewest(1, 31, NONE), 16);
  }

  /** "PLACES 0 .. 11 (12 at most): COLOUR 0 .. 3." */
  private static void places() {
    HornMaze x = new HornMaze();
    Checks.due(2, "place(0)", x.place(0), 0);
    Checks.due(2, "place(3)", x.place(3), 1);
    Checks.due(2, "place(-1)", x.place(-1), -1);
    Checks.due(2, "place(4)", x.place(4), -1);
    for (int i = 2; i < 11; i++) {
      x.place(1);
    }
    Checks.due(2, "the 12th", x.place(3), 11);
    Checks.due(2, "the 13th", x.place(3), -5);
    Checks.due(2, "count(0)", x.count(0), 12);
    Checks.due(3, "paint(11, 0)", x.paint(11, 0), 3);
    Checks.due(3, "paint(11, 3)", x.paint(11, 3), 0);
    Checks.due(3, "paint(12, 0)", x.paint(12, 0), -2);
    Checks.due(3, "paint(0, 3)", x.paint(0, 3), 0);
    Checks.due(3, "paint(0, 3), alike", x.paint(0, 3), 3);
    Checks.due(3, "paint(-1, 0)", x.paint(-1, 0), -2);
    Checks.due(3, "paint(0, -1)", x.paint(0, -1), -1);
    Checks.due(3, "paint(0, 4)", x.paint(0, 4), -1);
    Checks.due(3, "it is as it was", x.paint(0, 0), 3);
    Checks.due(3, "the others are as they were", x.paint(1, 0), 3);
    for (int n : new int[] {MAX, MIN}) {
      Checks.due(2, "place(" + n + ")", x.place(n), -1);
      Checks.due(3, "paint(0, " + n + ")", x.paint(0, n), -1);
      Checks.due(3, "paint(" + n + ", 0)", x.paint(n, 0), -2);
    }
  }

  /** "WORDS 0 .. 7 (8 at most)", "bits of DOORS 0 .. 7 each". */
  private static void words() {
    HornMaze x = new HornMaze();
    int[][] bad = {{-1, 0}, {8, 0}, {0, -1}, {0, 8}, {MAX, 7}, {MIN, 7}, {7, MAX}, {7, MIN}};
    for (int[] n : bad) {
      Checks.due(4, "word(" + n[0] + ", " + n[1] + ")", x.word(n[0], n[1]), -1);
    }
    Checks.due(4, "count(1)", x.count(1), 0);
    Checks.due(4, "word(0, 0)", x.word(0, 0), 0);
    Checks.due(4, "word(7, 7)", x.word(7, 7), 1);
    Checks.due(4, "word(7, 0)", x.word(7, 0), 2);
    Checks.due(4, "word(0, 7)", x.word(0, 7), 3);
    for (int i = 4; i < 8; i++) {
      Checks.due(4, "word " + i, x.word(0, 0), i);
    }
    Checks.due(4, "a 9th", x.word(0, 0), -5);
    Checks.due(4, "count(1) then", x.count(1), 8);
  }

  /** "Behind that it OPENS, then SHUTS, its DOORS": for all that a word can open and shut. */
  private static void doorsOfWords() {
    for (int opens = 0; opens < 8; opens++) {
      HornMaze x = new HornMaze();
      for (int shuts = 0; shuts < 8; shuts++) {
        x.word(opens, shuts);
      }
      for (int word = 0; word < 8; word++) {
        Checks.call(x, word);
        for (int doors = 0; doors < 8; doors++) {
          x.doors(doors);
          int due = (doors | opens) & ~word;
          Checks.due(4, "doors " + doors + " behind word(" + opens + ", " + word + ")", x.open(1), due);
        }
      }
    }
  }

  /** "LEADS: (to itself at first)", for words ahead of places, places ahead of words, and back. */
  private static void leads() {
    HornMaze x = Checks.maze(0, 8);
    for (int i = 0; i < 12; i++) {
      x.place(0);
    }
    for (int place = 0; place < 12; place++) {
      Checks.due(5, "word 7 from " + place, x.goes(1, 7, place, 7), place);
    }
    Checks.due(5, "lead(7, 11, 0)", x.lead(7, 11, 0), 11);
    Checks.due(5, "lead(7, 11, 11)", x.lead(7, 11, 11), 0);
    Checks.due(5, "lead(7, 0, 11)", x.lead(7, 0, 11), 0);
    Checks.due(5, "lead(0, 0, 0)", x.lead(0, 0, 0), 0);
    int[][] bad = {{8, 0, 0}, {-1, 0, 0}, {0, 12, 0}, {0, -1, 0}, {0, 0, 12}, {0, 0, -1}};
    for (int[] n : bad) {
      Checks.due(5, "lead(" + n[0] + ", " + n[1] + ", " + n[2] + ")", x.lead(n[0], n[1], n[2]), -2);
    }
    Checks.due(5, "word 7 from 0", x.goes(0, 7, 0, 0), 11);
    Checks.due(5, "word 6 from 0", x.goes(0, 6, 0, 0), 0);
    HornMaze y = Checks.maze(2, 1);
    y.image(0);
    y.place(3);
    y.lead(0, 2, 1);
    y.word(7, 0);
    y.lead(1, 0, 1);
    y.hear(0, 1, NONE);
    y.back(0);
    Checks.due(5, "a place that comes once more", y.place(2), 2);
    Checks.due(3, "its colour", y.paint(2, 0), 2);
    Checks.due(5, "it leads to itself at first", y.lead(0, 2, 0), 2);
    Checks.due(4, "a word that comes once more", y.word(0, 0), 1);
    Checks.due(5, "it leads to itself at first", y.lead(1, 0, 0), 0);
    Checks.due(6, "it is heard as it is at first", y.hear(0, 1, 1), 1);
    Checks.call(y, 1);
    Checks.due(4, "it opens nothing now", y.open(1), 0);
  }

  /** "KINDS 0, 1 of walkers HEAR each WORD as a WORD, or not at all (as it is at first)." */
  private static void hears() {
    HornMaze x = Checks.maze(12, 8);
    for (int word = 0; word < 8; word++) {
      x.lead(word, 0, word + 1);
      Checks.due(6, "kind 0 hears " + word, x.goes(0, word, 0, 0), word + 1);
      Checks.due(6, "kind 1 hears " + word, x.goes(1, word, 0, 0), word + 1);
    }
    Checks.due(6, "hear(1, 7, 0)", x.hear(1, 7, 0), 7);
    Checks.due(6, "hear(0, 0, 7)", x.hear(0, 0, 7), 0);
    Checks.due(6, "hear(1, 0, NONE)", x.hear(1, 0, NONE), 0);
    Checks.due(6, "what is heard as word 0 is word 0, though that is not heard", x.goes(1, 7, 0, 0), 1);
    Checks.due(6, "kind 1 does not hear 0", x.goes(1, 0, 0, 0), 0);
    Checks.due(6, "kind 0 hears 0 as 7", x.goes(0, 0, 0, 0), 8);
    Checks.due(6, "kind 0 hears 7 as ever", x.goes(0, 7, 0, 0), 8);
    int[][] bad = {{-1, 0, 0, -1}, {2, 0, 0, -1}, {0, -1, 0, -2}, {0, 8, 0, -2}, {0, 0, -2, -2}, {0, 0, 8, -2},
        {MAX, 0, 0, -1}, {MIN, 0, 0, -1}, {0, MAX, 0, -2}, {0, MIN, 0, -2}, {0, 0, MAX, -2}, {0, 0, MIN, -2}};
    for (int[] n : bad) {
      Checks.due(6, "hear(" + n[0] + ", " + n[1] + ", " + n[2] + ")", x.hear(n[0], n[1], n[2]), n[3]);
    }
    Checks.due(6, "kind 0 hears 0 as 7 behind these", x.hear(0, 0, 0), 7);
    Checks.due(6, "kind 1 still does not hear 0", x.hear(1, 0, 0), NONE);
  }

  private static void doors() {
    HornMaze x = new HornMaze();
    Checks.due(7, "doors(7)", x.doors(7), 0);
    for (int n : new int[] {-1, 8, MAX, MIN}) {
      Checks.due(7, "doors(" + n + ")", x.doors(n), -1);
    }
    Checks.due(7, "doors(0)", x.doors(0), 7);
    Checks.due(7, "count(13)", x.count(13), 0);
  }

  /** "Twenty bytes come behind the TAPE, four of each number, the highest first." */
  private static void feed() {
    HornMaze x = Checks.maze(12, 1);
    for (int place = 0; place < 12; place++) {
      x.lead(0, place, 5);
    }
    Checks.due(8, "feed", x.feed(0x0B010203, -1, MIN, MAX, 0), 20);
    Checks.due(10, "row(0)", x.row(0), 7);
    Checks.due(11, "stray()", x.stray(), 13);
    int[] to = {11, 1, 2, 3, 5, 5, 5, 5, 5, 0, 0, 0};
    for (int place = 0; place < 12; place++) {
      Checks.due(8, "goes from " + place, x.goes(0, 0, place, 0), to[place]);
    }
    x.feed(0, 0, 0x00000001, 0x02030405, 0x06070809);
    x.end(12);
    x.feed(0x01010101, 0x01010101, 0, 0, 0);
    x.end(12);
    Checks.due(10, "all numbers, the third's lowest byte is the last", x.row(0), 12);
    Checks.due(8, "goes from 11", x.goes(0, 0, 11, 0), 1);
    Checks.due(8, "goes from 8", x.goes(0, 0, 8, 0), 0);
    x.feed(0, 0, 0, 0x0B0A0908, 0x07060504);
    Checks.due(9, "end(0)", x.end(0), 0);
    x.feed(0x03030303, 0x03030303, 0x03030303, 0, 0);
    Checks.due(10, "what was cut off is gone", x.row(0), 12);
    Checks.due(8, "goes from 0", x.goes(0, 0, 0, 0), 3);
  }

  /** "NONE, if there would be more than 400"; "NONE, if it has not so many, or n is below 0." */
  private static void tapeEnds() {
    HornMaze x = new HornMaze();
    for (int i = 1; i <= 20; i++) {
      Checks.due(8, "feed " + i, x.feed(i, i, i, i, i), 20 * i);
    }
    Checks.due(8, "the 21st", x.feed(0, 0, 0, 0, 0), NONE);
    Checks.due(9, "end(401)", x.end(401), NONE);
    Checks.due(9, "end(400)", x.end(400), 400);
    Checks.due(9, "end(399)", x.end(399), 399);
    Checks.due(9, "end(400), cut off", x.end(400), NONE);
    Checks.due(8, "of 399", x.feed(0, 0, 0, 0, 0), NONE);
    Checks.due(9, "end(381)", x.end(381), 381);
    Checks.due(8, "of 381", x.feed(0, 0, 0, 0, 0), NONE);
    Checks.due(8, "count(6)", x.count(6), 381);
    Checks.due(9, "end(380)", x.end(380), 380);
    Checks.due(8, "of 380", x.feed(0, 0, 0, 0, 0), 400);
    for (int n : new int[] {-1, MIN, MAX}) {
      Checks.due(9, "end(" + n + ")", x.end(n), NONE);
    }
    Checks.due(8, "count(6) at last", x.count(6), 400);
    Checks.due(9, "end(0)", x.end(0), 0);
    Checks.due(9, "end(1) of none", x.end(1), NONE);
    Checks.due(8, "feed of an empty tape", x.feed(0, 0, 0, 0, 0), 20);
  }

  /** "A byte that is no PLACE, or beyond the PLACES, is STRAY: nothing." */
  private static void rows() {
    HornMaze x = Checks.maze(3, 2);
    x.lead(1, 1, 0);
    Checks.feed(x, "\2\3\2\2");
    Checks.due(10, "row(1): 2 is a place, 3 is none, and one is beyond", x.row(1), 2);
    Checks.due(11, "stray()", x.stray(), 2);
    Checks.due(10, "from 0", x.lead(1, 0, 0), 2);
    Checks.due(10, "from 1 as it was", x.lead(1, 1, 0), 0);
    Checks.due(10, "from 2", x.lead(1, 2, 0), 2);
    Checks.due(10, "the other word", x.lead(0, 0, 1), 0);
    x.place(0);
    Checks.due(10, "a place that came later: what was stray is nothing", x.lead(1, 3, 0), 3);
    Checks.feed(x, "\3");
    Checks.due(10, "a row of one", x.row(0), 1);
    Checks.due(11, "stray() of none", x.stray(), 0);
    Checks.feed(x, "\4");
    Checks.due(10, "none came", x.row(0), 0);
    Checks.due(10, "that is not refused", x.status(), 0);
    Checks.due(11, "stray() of one", x.stray(), 1);
    Checks.due(10, "row(0), the tape is empty", x.row(0), -6);
    Checks.due(11, "stray() behind a refused one", x.stray(), 1);
    Checks.feed(x, "\0");
    Checks.due(10, "row(2)", x.row(2), -2);
    Checks.due(10, "row(-1)", x.row(-1), -2);
    Checks.due(10, "the tape stays", x.count(6), 1);
    Checks.due(11, "stray() then", x.stray(), 1);
    Checks.due(10, "row(1)", x.row(1), 1);
    Checks.due(10, "the tape is empty then", x.count(6), 0);
  }

  private static void longRows() {
    HornMaze x = Checks.maze(12, 8);
    Checks.feed(x, "\13".repeat(400));
    Checks.due(10, "400 bytes for 12 places", x.row(7), 12);
    Checks.due(11, "all others", x.stray(), 388);
    Checks.due(10, "from 11", x.goes(0, 7, 11, 0), 11);
    Checks.due(10, "from 0", x.goes(0, 7, 0, 0), 11);
    Checks.feed(x, "\14".repeat(400));
    Checks.due(10, "400 bytes of 12", x.row(7), 0);
    Checks.due(11, "all of them", x.stray(), 400);
    Checks.due(10, "from 0 as it was", x.goes(0, 7, 0, 0), 11);
    HornMaze y = Checks.maze(0, 1);
    Checks.feed(y, "\0\1");
    Checks.due(10, "no places", y.row(0), 0);
    Checks.due(11, "all are beyond", y.stray(), 2);
    Checks.due(10, "the tape is empty then", y.count(6), 0);
  }

  /** "A ROW of WORDS, 60 at most, is told." */
  private static void calls() {
    HornMaze x = Checks.maze(0, 8);
    for (int i = 1; i < 60; i++) {
      x.call(0);
    }
    Checks.due(17, "call(8)", x.call(8), -2);
    Checks.due(17, "call(-1)", x.call(-1), -2);
    Checks.due(17, "call(MAX)", x.call(MAX), -2);
    Checks.due(17, "call(MIN)", x.call(MIN), -2);
    Checks.due(17, "the 60th", x.call(7), 60);
    Checks.due(17, "the 61st", x.call(7), -5);
    Checks.due(20, "all 60 can be said", x.open(60), 0);
    Checks.due(20, "61 are not there", x.open(61), NONE);
    Checks.due(18, "tear()", x.tear(), 60);
    Checks.due(18, "status() tells of no tear()", x.status(), -5);
    Checks.due(18, "count(3)", x.count(3), 0);
    Checks.due(18, "tear() of none", x.tear(), 0);
    Checks.due(20, "none are there", x.open(1), NONE);
    Checks.due(17, "the first", x.call(0), 1);
  }

  public static void main(String[] args) {
    nothing();
    lastCall();
    places();
    words();
    doorsOfWords();
    leads();
    hears();
    doors();
    feed();
    tapeEnds();
    rows();
    longRows();
    calls();
    Checks.end();
  }
}
