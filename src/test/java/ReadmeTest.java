import java.io.File;
import java.io.PrintWriter;
import java.net.URL;
import java.net.URLClassLoader;
import java.nio.file.Files;
import java.nio.file.Path;
import java.util.ArrayList;
import java.util.List;
import java.util.regex.Matcher;
import java.util.regex.Pattern;
import javax.tools.ToolProvider;

/** Makes the calls of README.md's examples: each must answer the number that stands behind it. */
public final class ReadmeTest {
  private static final Pattern BLOCK = Pattern.compile("(?s)```java\n(.*?)```");
  private static final Pattern CALL = Pattern.compile("(maze\\.\\w+\\(.*\\));\\s*// (-?\\d+)(:.*)?");

  private static int wrong = 0;

  /** Called by what is made of the examples. */
  public static void due(String call, int got, int want) {
    if (got != want) {
      wrong++;
      System.out.println("README.md: " + call + " answered " + got + ", it says " + want);
    }
  }

  private static String checked(String line) {
    Matcher call = CALL.matcher(line);
    if (!call.matches()) {
      return line;
    }
    String quoted = call.group(1).replace("\\", "\\\\").replace("\"", "\\\"");
    return "ReadmeTest.due(\"" + quoted + "\", " + call.group(1) + ", " + call.group(2) + ");";
  }

  private static String source(String readme) {
    StringBuilder members = new StringBuilder();
    StringBuilder main = new StringBuilder("public static void main(String[] args) {\n");
    Matcher block = BLOCK.matcher(readme);
    while (block.find()) {
      List<String> lines = new ArrayList<>();
      for (String line : block.group(1).split("\n")) {
        lines.add(checked(line));
      }
      String text = String.join("\n", lines);
      if (text.startsWith("static ")) {
        members.append(text).append('\n');
      } else {
        main.append("{\n").append(text).append("\n}\n");
      }
    }
    return "public final class Examples {\n" + members + main + "}\n}\n";
  }

  public static void main(String[] args) throws Exception {
    String source = source(Files.readString(Path.of("README.md")));
    int calls = source.split("ReadmeTest\\.due", -1).length - 1;
    if (calls < 40) {
      System.out.println("README.md has only " + calls + " calls with answers");
      wrong++;
    }
    Path made = Files.createTempDirectory("examples");
    File file = made.resolve("Examples.java").toFile();
    try (PrintWriter out = new PrintWriter(file)) {
      out.print(source);
    }
    String[] compile = {"-cp", System.getProperty("java.class.path"), "-d", made.toString(), file.getPath()};
    if (ToolProvider.getSystemJavaCompiler().run(null, null, null, compile) != 0) {
      System.out.println("README.md: the examples do not compile");
      wrong++;
    } else {
      try (URLClassLoader loader = new URLClassLoader(new URL[] {made.toUri().toURL()})) {
        loader.loadClass("Examples").getMethod("main", String[].class).invoke(null, (Object) new String[0]);
      }
    }
    for (File left : made.toFile().listFiles()) {
      left.delete();
    }
    made.toFile().delete();
    if (wrong > 0) {
      System.exit(1);
    }
  }
}
