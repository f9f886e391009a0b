import java.lang.reflect.Method;
import java.util.ArrayList;
import java.util.HashMap;
import java.util.List;
import java.util.Map;
import java.util.Random;

/**
 * Drawn runs of calls, each made on HornMaze and on Model, which must answer alike.
 * Arguments: how many runs (400), the first seed (1).
 */
public final class ModelTest {
  // By a sign each: p place, w word, k kind, d doors, c colour, m mix (behind it s: a set of it),
  // S a set of kind 0, t an aim, i a small number, n a number of words of the row, W as (or NONE),
  // h a set of the store, x what, l a law, v a walker, q a seed, r a rank, N a number of words, o what is seen.
  private static final String[] ASKED = {
    "stray", "fault", "goes kwpd", "goes kwpd", "barred wd", "after msn", "after msn", "open n", "fewest mst",
    "fewest mst", "ways mst", "ways mst", "spell msti", "spell msti", "without msw", "spare ms", "spare ms",
    "cycle msx", "cycle msx", "trace Sno", "trace Sno", "stands ms", "pair kpp", "pair kpp", "which kpp",
    "which kpp", "farthest k", "farthest k", "bar k", "plod kS", "plod kS", "sight S", "sight S", "ask S", "ask S",
    "held h", "kth i", "rank h", "about hx", "near hx", "between hh", "where v", "drawn v", "count x", "status",
  };
  private static final String[] CHANGED = {
    "place c", "paint pc", "word dd", "lead wpp", "lead wpp", "lead wpp", "hear kwW", "doors d", "doors d", "end i",
    "row w", "law", "force l", "call w", "call w", "call w", "tear", "hold h", "hold h", "drop h", "walker pk",
    "say w", "say w", "horn qN", "image x", "back x",
  };

  private static final String[] STORED = {
    "hold h", "hold h", "hold h", "hold h", "hold h", "drop h", "held h", "kth i", "rank h", "about hx", "about hx",
    "near hx", "between hh", "image x", "back x", "count x", "kth r",
  };
  private static final String[] CALLED = {
    "call w", "call w", "call w", "call w", "call w", "call w", "cycle msx", "after msn", "open n", "trace Sno",
    "say w", "horn qN", "drawn v", "where v", "walker pk", "image x", "back x", "doors d", "count x",
  };

  // What later calls answer is free.
  private static final int MOST_CALLS = 512;

  private final Random random;
  private final LawTexts texts;
  private final HornMaze maze = new HornMaze();
  private final Model model = new Model();
  private final List<String> calls = new ArrayList<>();
  private String lastAsked = "status";
  private int[] lastArgs = {};
  private static final Map<String, Method> METHODS = new HashMap<>();
  private static final Map<String, Map<Integer, Integer>> ANSWERS = new java.util.TreeMap<>();

  private ModelTest(long seed) {
    random = new Random(seed);
    texts = new LawTexts(random);
  }

  private static int on(Object object, String name, int[] args) throws ReflectiveOperationException {
    String key = object.getClass().getName() + " " + name + " " + args.length;
    Method method = METHODS.get(key);
    if (method == null) {
      Class<?>[] types = new Class<?>[args.length];
      java.util.Arrays.fill(types, int.class);
      method = object.getClass().getDeclaredMethod(name, types);
      METHODS.put(key, method);
    }
    Object[] boxed = new Object[args.length];
    for (int i = 0; i < args.length; i++) {
      boxed[i] = args[i];
    }
    return (Integer) method.invoke(object, boxed);
  }

  private void make(String name, int... args) throws ReflectiveOperationException {
    if (calls.size() == MOST_CALLS) {
      return;
    }
    int want = on(model, name, args);
    int got;
    try {
      got = on(maze, name, args);
    } catch (java.lang.reflect.InvocationTargetException thrown) {
      throw new IllegalStateException(calls + " " + name + java.util.Arrays.toString(args), thrown);
    }
    StringBuilder text = new StringBuilder(name).append('(');
    for (int i = 0; i < args.length; i++) {
      text.append(i == 0 ? "" : ", ").append(args[i]);
    }
    calls.add(text.append(") = ").append(got).toString());
    ANSWERS.computeIfAbsent(name, key -> new java.util.TreeMap<>()).merge(got, 1, Integer::sum);
    if (got != want) {
      throw new IllegalStateException("due is " + want + ": " + String.join("; ", calls));
    }
  }

  private int upTo(int n) {
    return random.nextInt(Math.max(n, 0) + 1);
  }

  private int argument(char sign, int[] args, int at) {
    if (random.nextInt(30) == 0) {
      int[] odd = {-1, -2, -3, 12, 13, 63, 64, 100, 4095, 4096, 8, 7, Integer.MAX_VALUE, Integer.MIN_VALUE};
      return odd[random.nextInt(odd.length)];
    }
    int places = model.count(0);
    int all = (1 << places) - 1;
    switch (sign) {
      case 'p':
        return upTo(places - 1);
      case 'w':
        return upTo(model.count(1) - 1);
      case 'W':
        return upTo(model.count(1)) - 1;
      case 'k':
        return upTo(1);
      case 'd':
        return random.nextBoolean() ? upTo(7) : random.nextInt(2);
      case 'c':
        return upTo(3);
      case 'm':
        return places <= 6 ? 1 + upTo(2) : 1 + upTo(1);
      case 's':
        return args[at - 1] == 3 ? random.nextInt() & (all | all << 6) : random.nextInt(3) == 0 ? all : upTo(all);
      case 'S':
        return random.nextInt(3) == 0 ? all : upTo(all);
      case 't':
        return random.nextBoolean() ? -1 : upTo(places - 1);
      case 'i':
        return upTo(6) - (random.nextInt(9) == 0 ? 1 : 0);
      case 'n':
        return upTo(model.count(3));
      case 'h':
        return random.nextInt(3) == 0 ? upTo(4095) : upTo(15);
      case 'r':
        return upTo(model.kth(-1));
      case 'x':
        return random.nextInt(4) == 0 ? upTo(14) : upTo(2);
      case 'l':
        return upTo(model.count(2)) - 1;
      case 'v':
        return upTo(model.count(5)) - 1;
      case 'q':
        return upTo(1000000);
      case 'N':
        return random.nextInt(5) == 0 ? upTo(200) : upTo(10);
      default:
        return random.nextInt(3) == 0 ? upTo(1073741823) : upTo(255);
    }
  }

  private void draw(String[] choices) throws ReflectiveOperationException {
    String choice = choices[random.nextInt(choices.length)];
    int gap = choice.indexOf(' ');
    String name = gap < 0 ? choice : choice.substring(0, gap);
    String signs = gap < 0 ? "" : choice.substring(gap + 1);
    int[] args = new int[signs.length()];
    for (int i = 0; i < args.length; i++) {
      args[i] = argument(signs.charAt(i), args, i);
    }
    make(name, args);
    if (choices == ASKED) {
      lastAsked = name;
      lastArgs = args;
    } else if (choices == CHANGED && random.nextBoolean()) {
      // What was found must not outlive the change.
      make(lastAsked, lastArgs);
    }
  }

  private void feed(byte[] bytes) throws ReflectiveOperationException {
    for (int from = 0; from < bytes.length; from += 20) {
      int[] numbers = new int[5];
      for (int i = 0; i < 20; i++) {
        int b = from + i < bytes.length ? bytes[from + i] & 255 : random.nextInt(256);
        numbers[i / 4] = numbers[i / 4] << 8 | b;
      }
      make("feed", numbers);
    }
  }

  private void feedLaw() throws ReflectiveOperationException {
    make("end", 0);
    byte[] bytes = texts.text().getBytes(java.nio.charset.StandardCharsets.ISO_8859_1);
    feed(bytes);
    make("end", bytes.length);
    make("law");
    make("fault");
    if (random.nextBoolean()) {
      make("force", model.count(2) - 1);
    }
  }

  private void feedRow() throws ReflectiveOperationException {
    make("end", 0);
    byte[] bytes = new byte[random.nextInt(4) == 0 ? random.nextInt(16) : model.count(0)];
    for (int i = 0; i < bytes.length; i++) {
      bytes[i] = (byte) (random.nextInt(20) == 0 ? random.nextInt(256) : upTo(model.count(0) - 1));
    }
    feed(bytes);
    make("end", bytes.length);
    make("row", upTo(model.count(1) - 1));
    make("stray");
  }

  private void run(int length) throws ReflectiveOperationException {
    int size = random.nextInt(20);
    int places = size < 14 ? upTo(5) : size < 19 ? 5 + upTo(3) : 8 + upTo(4);
    int words = random.nextInt(4) == 0 ? upTo(8) : upTo(3);
    int colours = upTo(3);
    boolean doorless = random.nextInt(3) == 0;
    for (int i = 0; i < places; i++) {
      make("place", upTo(colours));
    }
    for (int i = 0; i < words; i++) {
      make("word", doorless ? 0 : upTo(7) & upTo(7), doorless ? 0 : upTo(7) & upTo(7));
      if (random.nextInt(5) > 0) {
        feedRow();
      }
    }
    for (int i = upTo(3); i > 0; i--) {
      make("walker", upTo(places - 1), upTo(1));
    }
    if (random.nextInt(3) > 0) {
      feedLaw();
    }
    int mode = random.nextInt(12);
    while (calls.size() < length) {
      int kind = random.nextInt(40);
      if (mode == 0) {
        draw(STORED);
      } else if (mode == 1 && kind > 5) {
        draw(CALLED);
      } else if (kind == 0 || mode == 2 && kind < 20) {
        feedLaw();
      } else if (kind == 1) {
        feedRow();
      } else if (kind < 12) {
        draw(CHANGED);
      } else {
        draw(ASKED);
      }
    }
  }

  public static void main(String[] args) throws ReflectiveOperationException {
    int runs = args.length > 0 ? Integer.parseInt(args[0]) : 400;
    long first = args.length > 1 ? Long.parseLong(args[1]) : 1;
    int wrong = 0;
    for (long seed = first; seed < first + runs && wrong < 3; seed++) {
      try {
        new ModelTest(seed).run(seed % 5 == 0 ? 512 : 100);
      } catch (IllegalStateException found) {
        wrong++;
        System.out.println("run " + seed + ": " + found.getMessage());
        if (found.getCause() != null) {
          found.getCause().printStackTrace(System.out);
        }
      }
    }
    if (args.length > 2) {
      ANSWERS.forEach((name, answers) -> System.out.println(name + " " + answers));
    }
    if (wrong > 0) {
      System.exit(1);
    }
  }
}
