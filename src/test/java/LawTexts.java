import java.util.Random;

/** Draws texts of laws, good ones and such as are nearly good. */
final class LawTexts {
  private final Random random;

  LawTexts(Random random) {
    this.random = random;
  }

  private String one(String... texts) {
    return texts[random.nextInt(texts.length)];
  }

  String text() {
    int kind = random.nextInt(20);
    if (kind == 0) {
      return edge();
    }
    StringBuilder text = new StringBuilder(clause());
    int more = random.nextInt(4) == 0 ? random.nextInt(5) : random.nextInt(2);
    for (int i = 0; i < more; i++) {
      text.append(one(";", "; ", " ; ")).append(clause());
    }
    if (kind < 7) {
      spoil(text);
    }
    return text.length() > 400 ? text.substring(0, 400) : text.toString();
  }

  private void spoil(StringBuilder text) {
    int times = 1 + random.nextInt(2);
    for (int i = 0; i < times; i++) {
      int at = random.nextInt(text.length() + 1);
      if (random.nextBoolean() && at < text.length()) {
        text.delete(at, Math.min(text.length(), at + 1 + random.nextInt(4)));
      } else {
        text.insert(at, one(" ", "(", ")", "[", "]", ";", "not", " if ", "1", "1001", "x", "A", "\u00e9", "\t",
            " or ", " and ", "+", "<", "0", "leads", " barred "));
      }
    }
  }

  /** Texts at the document's limits, and one beyond. */
  private String edge() {
    int n = random.nextInt(3);
    switch (random.nextInt(6)) {
      case 0:
        return "barred;".repeat(11 + random.nextInt(2)) + one("barred", "", "x", "leads 1");
      case 1:
        return "leads " + "1+".repeat(48 + n) + "1";
      case 2:
        return "leads " + "[".repeat(7 + n) + "place" + "]".repeat(7 + n);
      case 3:
        return "barred if " + "(".repeat(4) + "[".repeat(3 + n) + "word" + "]".repeat(3 + n) + "=1" + ")".repeat(4);
      case 4:
        return " ".repeat(random.nextInt(5));
      default:
        return "leads 1" + "*1000".repeat(2 + n) + "/1000/1000/1000" + one("", "*1", "+1", "-1") + "; leads 0 - 1";
    }
  }

  private String clause() {
    String test = random.nextInt(4) == 0 ? "" : one(" if ", "if ") + test(2);
    return (random.nextInt(3) == 0 ? "barred" : "leads " + sum(2)) + test;
  }

  private String test(int depth) {
    int kind = random.nextInt(depth > 0 ? 7 : 3);
    if (kind == 3) {
      return test(depth - 1) + " or " + test(depth - 1);
    }
    if (kind == 4) {
      return test(depth - 1) + " and " + test(depth - 1);
    }
    if (kind == 5) {
      return one("not(", "(", "not not (") + test(depth - 1) + ")";
    }
    return (kind == 6 ? "not " : "") + sum(1) + one("<", ">", "=", " = ") + sum(1);
  }

  private String sum(int depth) {
    int kind = random.nextInt(depth > 0 ? 9 : 4);
    if (kind < 4) {
      return part();
    }
    if (kind < 7) {
      return sum(depth - 1) + one("+", "-", " + ", "*", "/") + sum(depth - 1);
    }
    if (kind == 7) {
      return "[" + sum(depth - 1) + "]";
    }
    return part() + one("*", "/", "+", "-") + part();
  }

  private String part() {
    return random.nextInt(3) == 0
        ? one("0", "1", "2", "3", "4", "5", "007", "1000", "999")
        : one("word", "place", "kind", "colour", "north", "east", "west");
  }
}
