import java.util.List;

/**
 * What a refused call leaves as it was: of two mazes that were built alike one hears the refused
 * call, and both must leave the same trail. So must a maze that was asked all that can be asked.
 */
public final class RefusedTest {
  private static final int NONE = Checks.NONE;
  private static final int MAX = Checks.MAX;
  private static final int MIN = Checks.MIN;
  private static final int[] REASONS = {-1, -2, -3, -5, -6};

  private interface Build {
    HornMaze build();
  }

  private interface Act {
    int on(HornMaze maze);
  }

  private static final Act NOTHING = maze -> 0;

  /** 5 places, 3 words, 2 laws, a row, a store, 3 walkers, a tape, a fault, strays, a horn, 2 images. */
  private static HornMaze rich() {
    HornMaze x = new HornMaze();
    for (int i = 0; i < 5; i++) {
      x.place(i % 3);
    }
    x.word(1, 0);
    x.word(2, 1);
    x.word(0, 6);
    x.image(1);
    Checks.feed(x, "\1\2\3\4\0\5");
    x.row(0);
    Checks.leads(x, 1, 0, 0, 1, 2, 3);
    x.hear(1, 2, 0);
    x.hear(0, 2, NONE);
    Checks.law(x, "leads 4 if place = 3");
    Checks.enforce(x, "barred if word = 1 and west = 1; leads 3 if colour = 2");
    Checks.call(x, 0, 1, 2, 0);
    for (int set : new int[] {5, 9, 5, 0, 4095}) {
      x.hold(set);
    }
    x.walker(2, 0);
    x.walker(4, 1);
    x.walker(0, 1);
    x.doors(1);
    x.image(0);
    x.doors(4);
    x.paint(3, 3);
    Checks.feed(x, "leads ?");
    x.law();
    x.horn(77, 9);
    Checks.feed(x, "\4\3\2\1\0\0\0");
    return x;
  }

  private static HornMaze withoutTape() {
    HornMaze x = rich();
    x.end(0);
    return x;
  }

  private static HornMaze withText(String text) {
    HornMaze x = rich();
    Checks.feed(x, text);
    return x;
  }

  private static HornMaze withOneImage() {
    HornMaze x = Checks.cerny(3);
    x.hold(7);
    x.image(0);
    x.doors(5);
    x.hold(3);
    return x;
  }

  /** The same number of places, words, laws, calls, walkers as the document has at most. */
  private static HornMaze fullPlaces() {
    HornMaze x = Checks.cerny(12);
    x.paint(11, 3);
    x.walker(11, 0);
    x.image(0);
    return x;
  }

  private static HornMaze fullWords() {
    HornMaze x = Checks.maze(2, 0);
    for (int i = 0; i < 8; i++) {
      x.word(i, 7 - i);
    }
    x.lead(7, 0, 1);
    x.hear(1, 7, 0);
    x.doors(3);
    return x;
  }

  private static HornMaze fullLaws() {
    HornMaze x = withoutTape();
    for (int i = 2; i < 6; i++) {
      Checks.law(x, "leads " + (i - 2));
    }
    Checks.feed(x, "leads x");
    return x;
  }

  private static HornMaze fullLawsBehindFault() {
    HornMaze x = withoutTape();
    for (int i = 2; i < 5; i++) {
      Checks.law(x, "barred");
    }
    Checks.law(x, "leads 1 if");
    x.image(0);
    Checks.law(x, "barred");
    x.image(1);
    x.back(0);
    Checks.law(x, " leads");
    // The fault is of a text that was read while there was room.
    x.back(1);
    Checks.feed(x, "barred");
    return x;
  }

  private static HornMaze fullRow() {
    HornMaze x = rich();
    x.doors(0);
    for (int i = 4; i < 60; i++) {
      x.call(i % 3);
    }
    return x;
  }

  private static HornMaze fullStore() {
    HornMaze x = Checks.cerny(3);
    for (int i = 0; i < 200; i++) {
      x.hold(i % 50 * 80);
    }
    x.image(0);
    return x;
  }

  private static HornMaze fullWalkers() {
    HornMaze x = Checks.cerny(4);
    for (int i = 0; i < 12; i++) {
      x.walker(i % 4, i % 2);
    }
    x.hear(1, 0, NONE);
    return x;
  }

  private static void alike(int promise, String what, HornMaze one, HornMaze other) {
    List<String> got = Trail.of(one);
    List<String> want = Trail.of(other);
    Checks.due(promise, what + ": calls of the trail are few enough", got.size() < 400 ? 0 : got.size(), 0);
    for (int i = 0; i < Math.max(got.size(), want.size()); i++) {
      String here = i < got.size() ? got.get(i) : "no call";
      String there = i < want.size() ? want.get(i) : "no call";
      if (!here.equals(there)) {
        Checks.wrong(promise, what + ", then " + here + ", due is " + there);
        return;
      }
    }
  }

  /** The call is refused, and leaves what another maze is behind the same build and these changes. */
  private static void leaves(int promise, String what, Build build, Act call, int why, Act changes) {
    HornMaze one = build.build();
    HornMaze other = build.build();
    changes.on(other);
    int[] before = new int[REASONS.length];
    for (int i = 0; i < REASONS.length; i++) {
      before[i] = one.count(7 + i);
    }
    Checks.due(promise, what, call.on(one), why);
    Checks.due(promise, what + ", then status()", one.status(), why);
    for (int i = 0; i < REASONS.length; i++) {
      int due = before[i] + (REASONS[i] == why ? 1 : 0);
      Checks.due(promise, what + ", then count(" + (7 + i) + ")", one.count(7 + i), due);
    }
    alike(promise, what, one, other);
  }

  private static void refused(int promise, String what, Act call, int why) {
    leaves(promise, what, RefusedTest::rich, call, why, NOTHING);
  }

  private static void maze() {
    refused(2, "place(-1)", x -> x.place(-1), -1);
    refused(2, "place(4)", x -> x.place(4), -1);
    leaves(2, "a 13th place", RefusedTest::fullPlaces, x -> x.place(3), -5, NOTHING);
    refused(3, "paint(0, -1)", x -> x.paint(0, -1), -1);
    refused(3, "paint(0, 4)", x -> x.paint(0, 4), -1);
    refused(3, "paint(-1, 1)", x -> x.paint(-1, 1), -2);
    refused(3, "paint(5, 1)", x -> x.paint(5, 1), -2);
    leaves(3, "paint(12, 1)", RefusedTest::fullPlaces, x -> x.paint(12, 1), -2, NOTHING);
    refused(4, "word(-1, 0)", x -> x.word(-1, 0), -1);
    refused(4, "word(8, 0)", x -> x.word(8, 0), -1);
    refused(4, "word(0, -1)", x -> x.word(0, -1), -1);
    refused(4, "word(0, 8)", x -> x.word(0, 8), -1);
    leaves(4, "a 9th word", RefusedTest::fullWords, x -> x.word(7, 0), -5, NOTHING);
    int[][] leads = {{-1, 0, 1}, {3, 0, 1}, {0, -1, 1}, {0, 5, 1}, {0, 0, -1}, {0, 0, 5}, {MAX, 0, 1}, {0, MIN, 1}};
    for (int[] n : leads) {
      refused(5, "lead(" + n[0] + ", " + n[1] + ", " + n[2] + ")", x -> x.lead(n[0], n[1], n[2]), -2);
    }
    leaves(5, "lead(0, 12, 0)", RefusedTest::fullPlaces, x -> x.lead(0, 12, 0), -2, NOTHING);
    leaves(5, "lead(0, 0, 12)", RefusedTest::fullPlaces, x -> x.lead(0, 0, 12), -2, NOTHING);
    leaves(5, "lead(8, 0, 0)", RefusedTest::fullWords, x -> x.lead(8, 0, 0), -2, NOTHING);
    refused(6, "hear(-1, 0, 1)", x -> x.hear(-1, 0, 1), -1);
    refused(6, "hear(2, 0, 1)", x -> x.hear(2, 0, 1), -1);
    int[][] hears = {{0, -1, 1}, {0, 3, 1}, {1, 0, 3}, {1, 0, -2}, {1, MAX, 1}, {1, 1, MIN}};
    for (int[] n : hears) {
      refused(6, "hear(" + n[0] + ", " + n[1] + ", " + n[2] + ")", x -> x.hear(n[0], n[1], n[2]), -2);
    }
    leaves(6, "hear(0, 8, 0)", RefusedTest::fullWords, x -> x.hear(0, 8, 0), -2, NOTHING);
    leaves(6, "hear(0, 0, 8)", RefusedTest::fullWords, x -> x.hear(0, 0, 8), -2, NOTHING);
    refused(7, "doors(-1)", x -> x.doors(-1), -1);
    refused(7, "doors(8)", x -> x.doors(8), -1);
  }

  private static void tapeAndRow() {
    refused(10, "row(-1), the tape stays", x -> x.row(-1), -2);
    refused(10, "row(3), the tape stays", x -> x.row(3), -2);
    leaves(10, "row(0) of an empty tape", RefusedTest::withoutTape, x -> x.row(0), -6, NOTHING);
    leaves(10, "row(3) of an empty tape", RefusedTest::withoutTape, x -> x.row(3), -2, NOTHING);
    leaves(12, "a 7th law", RefusedTest::fullLaws, x -> x.law(), -5, x -> x.end(0));
    leaves(12, "a 7th law behind a fault", RefusedTest::fullLawsBehindFault, x -> x.law(), -5, x -> x.end(0));
    // A text that is refused leaves its fault, which another text with the same fault leaves, too.
    leaves(12, "a text with a fault", () -> withText("leads 1 if 1"), x -> x.law(), -6,
        x -> Checks.law(x, "barred      !"));
    leaves(12, "blanks alone", () -> withText("  "), x -> x.law(), -6, x -> Checks.law(x, "  x"));
    refused(14, "force(-2)", x -> x.force(-2), -2);
    refused(14, "force(2)", x -> x.force(2), -2);
    leaves(14, "force(6)", RefusedTest::fullLaws, x -> x.force(6), -2, NOTHING);
    refused(17, "call(-1)", x -> x.call(-1), -2);
    refused(17, "call(3)", x -> x.call(3), -2);
    leaves(17, "a 61st call", RefusedTest::fullRow, x -> x.call(1), -5, NOTHING);
  }

  private static void storeAndWalkers() {
    refused(36, "hold(-1)", x -> x.hold(-1), -1);
    refused(36, "hold(4096)", x -> x.hold(4096), -1);
    leaves(36, "a 201st, new", RefusedTest::fullStore, x -> x.hold(1), -5, NOTHING);
    leaves(36, "a 201st, held", RefusedTest::fullStore, x -> x.hold(80), -5, NOTHING);
    refused(37, "drop(-1)", x -> x.drop(-1), -1);
    refused(37, "drop(4096)", x -> x.drop(4096), -1);
    refused(37, "drop(6), which is not in it", x -> x.drop(6), -3);
    refused(37, "drop(4094), which is not in it", x -> x.drop(4094), -3);
    refused(44, "walker(0, -1)", x -> x.walker(0, -1), -1);
    refused(44, "walker(0, 2)", x -> x.walker(0, 2), -1);
    refused(44, "walker(-1, 0)", x -> x.walker(-1, 0), -2);
    refused(44, "walker(5, 0)", x -> x.walker(5, 0), -2);
    leaves(44, "walker(12, 0)", RefusedTest::fullPlaces, x -> x.walker(12, 0), -2, NOTHING);
    leaves(44, "a 13th walker", RefusedTest::fullWalkers, x -> x.walker(0, 0), -5, NOTHING);
    refused(46, "say(-1)", x -> x.say(-1), -2);
    refused(46, "say(3)", x -> x.say(3), -2);
    refused(46, "say(1), which is barred", x -> x.say(1), -3);
  }

  private static void hornAndImages() {
    int[][] horns = {{-1, 3}, {1000001, 3}, {5, -1}, {5, 201}, {MIN, 0}, {MAX, 0}, {0, MIN}, {0, MAX}};
    for (int[] n : horns) {
      refused(47, "horn(" + n[0] + ", " + n[1] + ")", x -> x.horn(n[0], n[1]), -1);
    }
    for (int k : new int[] {-1, 2, MAX, MIN}) {
      refused(49, "image(" + k + ")", x -> x.image(k), -1);
      refused(50, "back(" + k + ")", x -> x.back(k), -1);
    }
    leaves(50, "back(1), which was not kept", RefusedTest::withOneImage, x -> x.back(1), -2, NOTHING);
  }

  /** Of a new object nothing is there yet; each call is refused by what it says. */
  private static void onNew() {
    Build build = HornMaze::new;
    leaves(3, "new: paint(0, 0)", build, x -> x.paint(0, 0), -2, NOTHING);
    leaves(5, "new: lead(0, 0, 0)", build, x -> x.lead(0, 0, 0), -2, NOTHING);
    leaves(6, "new: hear(0, 0, 0)", build, x -> x.hear(0, 0, 0), -2, NOTHING);
    leaves(6, "new: hear(0, 0, NONE)", build, x -> x.hear(0, 0, NONE), -2, NOTHING);
    leaves(10, "new: row(0)", build, x -> x.row(0), -2, NOTHING);
    leaves(14, "new: force(0)", build, x -> x.force(0), -2, NOTHING);
    leaves(17, "new: call(0)", build, x -> x.call(0), -2, NOTHING);
    leaves(37, "new: drop(0)", build, x -> x.drop(0), -3, NOTHING);
    leaves(44, "new: walker(0, 0)", build, x -> x.walker(0, 0), -2, NOTHING);
    leaves(46, "new: say(0)", build, x -> x.say(0), -2, NOTHING);
    leaves(50, "new: back(0)", build, x -> x.back(0), -2, NOTHING);
    leaves(50, "new: back(1)", build, x -> x.back(1), -2, NOTHING);
  }

  /** Of several reasons the first in the document's order is told, and it alone is counted. */
  private static void order() {
    leaves(2, "place(4), full", RefusedTest::fullPlaces, x -> x.place(4), -1, NOTHING);
    leaves(2, "place(-1), full", RefusedTest::fullPlaces, x -> x.place(-1), -1, NOTHING);
    refused(3, "paint(5, 4)", x -> x.paint(5, 4), -1);
    refused(3, "paint(-1, -1)", x -> x.paint(-1, -1), -1);
    leaves(4, "word(8, 0), full", RefusedTest::fullWords, x -> x.word(8, 0), -1, NOTHING);
    leaves(4, "word(0, -1), full", RefusedTest::fullWords, x -> x.word(0, -1), -1, NOTHING);
    refused(6, "hear(2, 3, 3)", x -> x.hear(2, 3, 3), -1);
    refused(6, "hear(-1, -1, -2)", x -> x.hear(-1, -1, -2), -1);
    leaves(10, "row(-1) of an empty tape", RefusedTest::withoutTape, x -> x.row(-1), -2, NOTHING);
    leaves(17, "call(3), full", RefusedTest::fullRow, x -> x.call(3), -2, NOTHING);
    leaves(17, "call(-1), full", RefusedTest::fullRow, x -> x.call(-1), -2, NOTHING);
    leaves(36, "hold(4096), full", RefusedTest::fullStore, x -> x.hold(4096), -1, NOTHING);
    leaves(36, "hold(-1), full", RefusedTest::fullStore, x -> x.hold(-1), -1, NOTHING);
    refused(44, "walker(5, 2)", x -> x.walker(5, 2), -1);
    refused(44, "walker(-1, -1)", x -> x.walker(-1, -1), -1);
    leaves(44, "walker(0, 2), full", RefusedTest::fullWalkers, x -> x.walker(0, 2), -1, NOTHING);
    leaves(44, "walker(4, 0), full", RefusedTest::fullWalkers, x -> x.walker(4, 0), -2, NOTHING);
    leaves(44, "walker(4, 2), full", RefusedTest::fullWalkers, x -> x.walker(4, 2), -1, NOTHING);
    Build allBarred = () -> {
      HornMaze x = Checks.cerny(3);
      Checks.enforce(x, "barred");
      return x;
    };
    leaves(46, "say(2), all barred", allBarred, x -> x.say(2), -2, NOTHING);
    leaves(46, "say(1), all barred", allBarred, x -> x.say(1), -3, NOTHING);
    leaves(50, "back(2), none kept", Checks::lone, x -> x.back(2), -1, NOTHING);
    leaves(50, "back(-1), none kept", Checks::lone, x -> x.back(-1), -1, NOTHING);
  }

  /** Calls that only ask, with a number that can be or can't be. */
  private static int askAll(HornMaze x, int n) {
    int sum = x.goes(n, n, n, n) + x.barred(n, n) + x.after(n, n, n) + x.after(1, 31, n) + x.open(n);
    sum += x.fewest(1, n, NONE) + x.ways(n, 3, n) + x.spell(1, 31, NONE, n) + x.without(1, 31, n) + x.spare(1, n);
    sum += x.cycle(1, 31, n) + x.trace(31, n, n) + x.stands(n, n) + x.pair(0, n, 1) + x.which(n, 0, 1);
    sum += x.farthest(n) + x.bar(n) + x.plod(0, n) + x.sight(n) + x.ask(n) + x.held(n) + x.kth(n) + x.rank(n);
    sum += x.about(n, 1) + x.near(n, 0) + x.between(0, n) + x.where(n) + x.drawn(n) + x.count(n) + x.end(MAX);
    return sum + x.stands(1, 31) + x.sight(31) + x.plod(1, 31) + x.which(1, 0, 3) + x.stray() + x.fault();
  }

  private static void asked() {
    for (int n : new int[] {MIN, -2, -1, 0, 1, 4, 5, 31, 4095, 4096, MAX}) {
      HornMaze one = rich();
      HornMaze other = rich();
      one.say(1);
      other.say(1);
      askAll(one, n);
      Checks.due(52, "status() behind calls that only ask", one.status(), -3);
      for (int what = 7; what <= 11; what++) {
        Checks.due(51, "count(" + what + ") behind calls that only ask", one.count(what), other.count(what));
      }
      alike(52, "all that can be asked, with " + n, one, other);
    }
  }

  /** feed() and end() that answer NONE leave the tape and are no refused calls. */
  private static void tapeFull() {
    Build build = () -> {
      HornMaze x = rich();
      Checks.feed(x, "\3\3\3" + "\1".repeat(378));
      return x;
    };
    HornMaze one = build.build();
    HornMaze other = build.build();
    Checks.due(8, "feed that would be 401", one.feed(0, 0, 0, 0, 0), NONE);
    Checks.due(9, "end(382)", one.end(382), NONE);
    Checks.due(9, "end(-1)", one.end(-1), NONE);
    Checks.due(8, "status", one.status(), other.status());
    Checks.due(8, "count(7)", one.count(7), other.count(7));
    Checks.due(8, "count(10)", one.count(10), other.count(10));
    alike(8, "feed and end that answer NONE", one, other);
  }

  public static void main(String[] args) {
    maze();
    tapeAndRow();
    storeAndWalkers();
    hornAndImages();
    onNew();
    order();
    asked();
    tapeFull();
    Checks.end();
  }
}
