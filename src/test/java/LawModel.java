import java.util.ArrayList;
import java.util.List;
import java.util.Map;

/** A law as a tree, read and told in another way than HornMaze does it; for ModelTest. */
final class LawModel {
  static final class Fault extends RuntimeException {
    final int at;

    Fault(int at) {
      super(null, null, false, false);
      this.at = at;
    }
  }

  static final class Broken extends RuntimeException {
    Broken() {
      super(null, null, false, false);
    }
  }

  interface Tree {
    long of(Map<String, Integer> facts);
  }

  private record Token(String text, int at) {
  }

  private record Clause(Tree leads, Tree test) {
  }

  private final List<Token> tokens = new ArrayList<>();
  private final List<Clause> clauses = new ArrayList<>();
  private int next = 0;
  private int parts = 0;

  /** Throws Fault. */
  LawModel(byte[] bytes) {
    StringBuilder signs = new StringBuilder();
    for (byte b : bytes) {
      signs.append((char) (b & 255));
    }
    java.util.regex.Matcher matcher =
        java.util.regex.Pattern.compile("[a-z]+|[0-9]+|[^ ]", java.util.regex.Pattern.DOTALL).matcher(signs);
    while (matcher.find()) {
      tokens.add(new Token(matcher.group(), matcher.start()));
    }
    tokens.add(new Token("", bytes.length));
    clause();
    while (peek().equals(";")) {
      next++;
      if (clauses.size() == 12) {
        throw fault();
      }
      clause();
    }
    if (!peek().isEmpty()) {
      throw fault();
    }
  }

  /** What "leads" tells; null if nothing. */
  Long leads(Map<String, Integer> facts) {
    Long told = null;
    for (Clause clause : clauses) {
      if (clause.leads != null) {
        try {
          if (clause.test.of(facts) != 0) {
            told = clause.leads.of(facts);
          }
        } catch (Broken broken) {
          continue;
        }
      }
    }
    return told;
  }

  boolean bars(Map<String, Integer> facts) {
    for (Clause clause : clauses) {
      if (clause.leads == null) {
        try {
          if (clause.test.of(facts) != 0) {
            return true;
          }
        } catch (Broken broken) {
          continue;
        }
      }
    }
    return false;
  }

  private String peek() {
    return tokens.get(next).text;
  }

  private Fault fault() {
    return new Fault(tokens.get(next).at);
  }

  private void expect(String... texts) {
    for (String text : texts) {
      if (peek().equals(text)) {
        next++;
        return;
      }
    }
    throw fault();
  }

  private void clause() {
    Tree leads = null;
    String first = peek();
    expect("leads", "barred");
    if (first.equals("leads")) {
      leads = sum(0);
    }
    Tree test = facts -> 1;
    if (peek().equals("if")) {
      next++;
      test = test(0);
    }
    clauses.add(new Clause(leads, test));
  }

  private Tree test(int depth) {
    Tree one = both(depth);
    if (!peek().equals("or")) {
      return one;
    }
    List<Tree> all = new ArrayList<>(List.of(one));
    while (peek().equals("or")) {
      next++;
      all.add(both(depth));
    }
    return facts -> {
      for (Tree tree : all) {
        if (tree.of(facts) != 0) {
          return 1;
        }
      }
      return 0;
    };
  }

  private Tree both(int depth) {
    List<Tree> all = new ArrayList<>(List.of(plain(depth)));
    while (peek().equals("and")) {
      next++;
      all.add(plain(depth));
    }
    return facts -> {
      for (Tree tree : all) {
        if (tree.of(facts) == 0) {
          return 0;
        }
      }
      return 1;
    };
  }

  private Tree plain(int depth) {
    if (peek().equals("not")) {
      next++;
      Tree inner = plain(depth);
      return facts -> inner.of(facts) == 0 ? 1 : 0;
    }
    if (peek().equals("(")) {
      if (depth == 8) {
        throw fault();
      }
      next++;
      Tree inner = test(depth + 1);
      expect(")");
      return inner;
    }
    Tree left = sum(depth);
    String sign = peek();
    expect("<", ">", "=");
    Tree right = sum(depth);
    return facts -> {
      int compared = Long.compare(left.of(facts), right.of(facts));
      return (sign.equals("<") ? compared < 0 : sign.equals(">") ? compared > 0 : compared == 0) ? 1 : 0;
    };
  }

  private static long within(long value) {
    if (Math.abs(value) > 1_000_000_000L) {
      throw new Broken();
    }
    return value;
  }

  private Tree sum(int depth) {
    Tree all = term(depth);
    while (peek().equals("+") || peek().equals("-")) {
      int sign = peek().equals("+") ? 1 : -1;
      next++;
      Tree left = all;
      Tree right = term(depth);
      all = facts -> within(left.of(facts) + sign * right.of(facts));
    }
    return all;
  }

  private Tree term(int depth) {
    Tree all = part(depth);
    while (peek().equals("*") || peek().equals("/")) {
      boolean times = peek().equals("*");
      next++;
      Tree left = all;
      Tree right = part(depth);
      all = facts -> {
        long one = left.of(facts);
        long other = right.of(facts);
        if (!times && other == 0) {
          throw new Broken();
        }
        return within(times ? one * other : one / other);
      };
    }
    return all;
  }

  private Tree part(int depth) {
    String text = peek();
    if (text.equals("[")) {
      if (depth == 8) {
        throw fault();
      }
      next++;
      Tree inner = sum(depth + 1);
      expect("]");
      return inner;
    }
    boolean isNumber = text.matches("[0-9]+");
    if (isNumber && new java.math.BigInteger(text).compareTo(java.math.BigInteger.valueOf(1000)) > 0) {
      throw fault();
    }
    boolean isName = text.matches("word|place|kind|colour|north|east|west");
    if (!isNumber && !isName || parts == 50) {
      throw fault();
    }
    parts++;
    next++;
    if (isNumber) {
      int number = Integer.parseInt(text);
      return facts -> number;
    }
    return facts -> facts.get(text);
  }
}
