import java.util.List;

/**
 * "BACK to one all that it keeps is as it was then": a maze is built in one way, kept, emptied, built
 * in another way that differs in all, and gone back with; it must leave the trail of one that never
 * was built otherwise.
 */
public final class BackTest {
  private interface Build {
    void on(HornMaze maze, int variant);
  }

  private static void comesBack(String what, Build build) {
    for (int variant = 0; variant < 2; variant++) {
      HornMaze one = new HornMaze();
      one.image(1);
      build.on(one, variant);
      one.image(0);
      one.back(1);
      build.on(one, 1 - variant);
      one.back(0);
      HornMaze other = new HornMaze();
      other.image(1);
      build.on(other, variant);
      other.image(0);
      List<String> got = Trail.of(one);
      List<String> want = Trail.of(other);
      for (int i = 0; i < Math.min(got.size(), want.size()); i++) {
        if (!got.get(i).equals(want.get(i))) {
          Checks.wrong(50, "back to " + what + ", then " + got.get(i) + ", due is " + want.get(i));
          break;
        }
      }
      Checks.due(50, "back to " + what + ": how many answers", got.size(), want.size());
    }
  }

  private static void words(HornMaze x, int variant) {
    x.place(0);
    x.place(0);
    for (int word = 0; word < 8; word++) {
      x.word(variant == 0 ? word : 7 - word, variant == 0 ? 7 & word * 3 : 7 & word * 5 + 1);
      x.hear(1 - variant, word, 7 - word);
    }
    x.lead(7, 1, 0);
    x.lead(7 * variant, 0, 1);
    x.doors(3 + variant);
  }

  private static void places(HornMaze x, int variant) {
    x.word(0, 0);
    x.word(1, 0);
    for (int place = 0; place < 12; place++) {
      x.place((place + variant) % 4);
    }
    for (int place = 0; place < 12; place++) {
      x.lead(1, place, (place + 1 + variant) % 12);
    }
    x.lead(0, 11, variant);
  }

  private static void row(HornMaze x, int variant) {
    x.place(0);
    for (int word = 0; word < 3; word++) {
      x.word(1 << word, 7 >> word);
    }
    for (int i = 0; i < 60; i++) {
      x.call((i * (variant + 1) + i / 7) % 3);
    }
  }

  private static void walkers(HornMaze x, int variant) {
    for (int place = 0; place < 4; place++) {
      x.place(0);
    }
    x.word(0, 0);
    x.word(0, 0);
    for (int place = 0; place < 4; place++) {
      x.lead(0, place, (place + 1) % 4);
    }
    x.hear(1, 0, 1);
    for (int i = 0; i < 12; i++) {
      x.walker((i + variant) % 4, (i / 2 + variant) % 2);
    }
  }

  private static void store(HornMaze x, int variant) {
    for (int i = 0; i < 70; i++) {
      x.hold(i * i * (variant + 3) % 31 * 100);
    }
  }

  private static void laws(HornMaze x, int variant) {
    x.place(0);
    x.place(1);
    x.place(2);
    x.word(0, 0);
    x.word(0, 0);
    for (int i = 0; i < 6; i++) {
      Checks.law(x, (i + variant) % 2 == 0 ? "leads 1; barred" : "leads 2");
    }
    x.force(4 + variant);
  }

  public static void main(String[] args) {
    comesBack("words", BackTest::words);
    comesBack("places", BackTest::places);
    comesBack("a row", BackTest::row);
    comesBack("walkers", BackTest::walkers);
    comesBack("a store", BackTest::store);
    comesBack("laws", BackTest::laws);
    Checks.end();
  }
}
