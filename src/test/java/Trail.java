import java.util.ArrayList;
import java.util.List;
import java.util.function.IntUnaryOperator;

/**
 * What a maze answers to all that can be asked of it, and then to calls that tell what was there:
 * two mazes that leave the same trail stand alike. The maze is used up by it.
 */
final class Trail {
  private static final int NONE = HornMaze.NONE;

  private final HornMaze maze;
  private final List<String> answers = new ArrayList<>();

  private Trail(HornMaze maze) {
    this.maze = maze;
  }

  /** A line for each call; without the counts of refused calls and without status. */
  static List<String> of(HornMaze maze) {
    Trail trail = new Trail(maze);
    trail.countAll();
    trail.askMaze();
    trail.askHorn();
    trail.askSearches();
    trail.useTape();
    trail.useMaze();
    for (int k = 0; k < 2; k++) {
      trail.add("back(" + k + ")", maze.back(k));
      trail.countAll();
      trail.useMaze();
    }
    return trail.answers;
  }

  private void add(String call, int answer) {
    answers.add(call + " = " + answer);
  }

  private void addEach(String call, int from, int to, IntUnaryOperator asked) {
    for (int i = from; i < to; i++) {
      add(call + " " + i, asked.applyAsInt(i));
    }
  }

  private void countAll() {
    addEach("count", 0, 7, maze::count);
    addEach("count", 12, 14, maze::count);
  }

  private void askMaze() {
    int places = maze.count(0);
    int words = maze.count(1);
    int doors = maze.count(13);
    for (int kind = 0; kind < 2; kind++) {
      for (int word = 0; word < words; word++) {
        for (int place = 0; place < Math.min(places, 6); place++) {
          add("goes " + kind + " " + word + " " + place, maze.goes(kind, word, place, doors));
        }
      }
    }
    addEach("barred", 0, words, word -> maze.barred(word, doors));
    addEach("barred, other doors,", 0, words, word -> maze.barred(word, 7 - doors));
  }

  private void askHorn() {
    add("stray", maze.stray());
    add("fault", maze.fault());
    addEach("drawn", NONE, maze.count(5) + 1, maze::drawn);
  }

  private void askSearches() {
    int all = (1 << maze.count(0)) - 1;
    for (int mix = 1; mix <= 2; mix++) {
      add("fewest", maze.fewest(mix, all, NONE));
      add("ways", maze.ways(mix, all, NONE));
      add("stands", maze.stands(mix, all));
      add("cycle", maze.cycle(mix, all, 1));
    }
    add("bar", maze.bar(0));
    add("plod", maze.plod(1, all));
    add("sight", maze.sight(all));
  }

  private void askStore() {
    int size = maze.kth(NONE);
    add("kth -1", size);
    for (int i = 0; i < size; i += 1 + size / 8) {
      int set = maze.kth(i);
      add("kth " + i, set);
      add("held " + set, maze.held(set));
    }
    add("the last kth", maze.kth(size - 1));
    add("about", maze.about(1, 1));
  }

  private void useTape() {
    add("row", maze.row(0));
    add("stray", maze.stray());
  }

  /** Calls that answer what was there ahead of them. */
  private void useMaze() {
    int places = maze.count(0);
    int words = maze.count(1);
    addEach("where", 0, maze.count(5) + 1, maze::where);
    askStore();
    useRow((1 << places) - 1);
    useLaws();
    for (int word = 0; word < words; word++) {
      useWord(word);
    }
    for (int word = 0; word < words; word++) {
      int said = word;
      addEach("lead " + word, 0, places, place -> maze.lead(said, place, 0));
      addEach("hear " + word, 0, 2, kind -> maze.hear(kind, said, 0));
    }
    addEach("paint", 0, places, place -> maze.paint(place, 0));
  }

  private void useRow(int all) {
    int called = maze.count(3);
    for (int n = 0; n <= called; n += 1 + called / 8) {
      add("after " + n, maze.after(1, all, n));
      add("open " + n, maze.open(n));
    }
    add("tear", maze.tear());
  }

  private void useLaws() {
    int laws = maze.count(2);
    for (int law = 0; law < laws; law++) {
      add("force " + law, maze.force(law));
      add("goes", maze.goes(0, 0, 0, 0));
      add("barred", maze.barred(1, 1));
    }
    add("force -1", maze.force(NONE));
  }

  /** From no door and from all doors, so that it is seen which ones it opens and shuts. */
  private void useWord(int word) {
    for (int doors = 0; doors <= 7; doors += 7) {
      add("doors " + doors, maze.doors(doors));
      add("say " + word, maze.say(word));
      add("count 13", maze.count(13));
    }
    addEach("where behind it", 0, maze.count(5), maze::where);
  }
}
