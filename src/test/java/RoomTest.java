import com.sun.management.ThreadMXBean;
import java.lang.management.ManagementFactory;

/** The dearest calls, with a change ahead of each, must not fill the one room that a run has. */
public final class RoomTest {
  // 7.3 million elements are the room of a whole run; this is a fifth of it, at 4 bytes each.
  private static final long MOST_BYTES = 6_000_000;

  /** With one colour no sight parts a set, so that sight() comes to the most stands. */
  private static HornMaze dearMaze(int colours) {
    HornMaze x = Checks.maze(12, 0);
    for (int word = 0; word < 8; word++) {
      x.word(word < 3 ? 1 << word : 0, word >= 3 && word < 6 ? 1 << (word - 3) : 0);
    }
    for (int place = 0; place < 12; place++) {
      x.lead(6, place, (place + 1) % 12);
      x.paint(place, place % colours);
    }
    x.lead(7, 0, 1);
    x.lead(7, 1, 0);
    x.lead(0, 5, 4);
    return x;
  }

  public static void main(String[] args) {
    ThreadMXBean threads = (ThreadMXBean) ManagementFactory.getThreadMXBean();
    long thread = Thread.currentThread().getId();
    // Once ahead, so that what the machine loads for it is not counted.
    run(dearMaze(1), 5);
    boolean isGood = true;
    for (int colours = 1; colours <= 4; colours++) {
      long before = threads.getThreadAllocatedBytes(thread);
      run(dearMaze(colours), 100);
      long used = threads.getThreadAllocatedBytes(thread) - before;
      if (used > MOST_BYTES) {
        System.out.println("with " + colours + " colours: a run of dear calls took " + used + " bytes");
        isGood = false;
      }
    }
    if (!isGood) {
      System.exit(1);
    }
  }

  private static void run(HornMaze x, int rounds) {
    for (int i = 0; i < rounds; i++) {
      x.lead(2, i % 12, i % 11);
      x.stands(1 + i % 2, 4095);
      x.sight(4095);
      x.plod(i % 2, 4095);
    }
  }
}
