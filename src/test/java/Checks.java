import java.nio.charset.StandardCharsets;

/** What the tests of single promises share. */
final class Checks {
  static final int NONE = HornMaze.NONE;
  static final int MAX = Integer.MAX_VALUE;
  static final int MIN = Integer.MIN_VALUE;
  private static int wrong = 0;

  private Checks() {
  }

  static void due(int promise, String what, long got, long want) {
    if (got != want) {
      wrong++;
      System.out.println("promise " + promise + ": " + what + " answered " + got + ", due is " + want);
    }
  }

  static void wrong(int promise, String what) {
    wrong++;
    System.out.println("promise " + promise + ": " + what);
  }

  /** A call that is refused: what it answers, what status tells, and that one refusal is counted. */
  static void refused(int promise, String what, HornMaze maze, java.util.function.IntSupplier call, int why) {
    int[] reasons = {-1, -2, -3, -5, -6};
    int before = 0;
    int at = 0;
    for (int i = 0; i < reasons.length; i++) {
      if (reasons[i] == why) {
        at = 7 + i;
        before = maze.count(at);
      }
    }
    due(promise, what, call.getAsInt(), why);
    due(promise, what + ", then status", maze.status(), why);
    due(promise, what + ", then how many refused", maze.count(at), before + 1);
  }

  static void end() {
    if (wrong > 0) {
      System.exit(1);
    }
  }

  /** The tape holds these bytes alone then. */
  static void feed(HornMaze maze, String text) {
    maze.end(0);
    byte[] bytes = text.getBytes(StandardCharsets.ISO_8859_1);
    for (int from = 0; from < bytes.length; from += 20) {
      int[] numbers = new int[5];
      for (int i = 0; i < 20; i++) {
        numbers[i / 4] = numbers[i / 4] << 8 | (from + i < bytes.length ? bytes[from + i] & 255 : 0);
      }
      maze.feed(numbers[0], numbers[1], numbers[2], numbers[3], numbers[4]);
    }
    maze.end(bytes.length);
  }

  static int law(HornMaze maze, String text) {
    feed(maze, text);
    return maze.law();
  }

  /** The law is read, and is in force. */
  static void enforce(HornMaze maze, String text) {
    maze.force(law(maze, text));
  }

  /** Places of colour 0, words without doors. */
  static HornMaze maze(int places, int words) {
    HornMaze maze = new HornMaze();
    for (int i = 0; i < places; i++) {
      maze.place(0);
    }
    for (int i = 0; i < words; i++) {
      maze.word(0, 0);
    }
    return maze;
  }

  /** One place, one word, and nothing else. */
  static HornMaze lone() {
    return maze(1, 1);
  }

  static void leads(HornMaze maze, int word, int... to) {
    for (int place = 0; place < to.length; place++) {
      maze.lead(word, place, to[place]);
    }
  }

  static void call(HornMaze maze, int... words) {
    maze.tear();
    for (int word : words) {
      maze.call(word);
    }
  }

  /** The well-known maze with a word that turns round and one that brings two together. */
  static HornMaze cerny(int places) {
    HornMaze maze = maze(places, 2);
    for (int place = 0; place < places; place++) {
      maze.lead(0, place, (place + 1) % places);
    }
    maze.lead(1, 0, 1 % places);
    return maze;
  }
}
