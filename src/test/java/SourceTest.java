import com.sun.source.tree.*;
import com.sun.source.util.JavacTask;
import com.sun.source.util.SourcePositions;
import com.sun.source.util.TreeScanner;
import com.sun.source.util.Trees;
import java.io.File;
import java.util.*;
import javax.lang.model.element.Modifier;
import javax.tools.JavaCompiler;
import javax.tools.StandardJavaFileManager;
import javax.tools.ToolProvider;

/** Holds src/main/java/HornMaze.java against the rules of LANGUAGE.md that can be seen in its tree. */
public final class SourceTest {
  private static final Set<String> LIBRARY = Set.of("System.arraycopy", "Arrays.copyOf", "Arrays.copyOfRange",
      "Arrays.fill", "Math.min", "Math.max", "Math.abs", "Integer.bitCount", "Integer.numberOfTrailingZeros",
      "Integer.highestOneBit", "NAMES.length", "NAMES.charAt");
  private static final Set<Tree.Kind> BANNED = EnumSet.of(Tree.Kind.LAMBDA_EXPRESSION, Tree.Kind.MEMBER_REFERENCE,
      Tree.Kind.TRY, Tree.Kind.THROW, Tree.Kind.CATCH, Tree.Kind.SYNCHRONIZED, Tree.Kind.ASSERT,
      Tree.Kind.SWITCH_EXPRESSION);
  private static final Set<String> CONSTANT_TYPES =
      Set.of("int", "long", "boolean", "char", "String", "int[]", "long[]", "char[]", "byte[]");

  private static int wrong = 0;
  private static final Map<String, Set<String>> CALLS = new TreeMap<>();
  private static final Set<String> PUBLIC = new TreeSet<>();
  private static final Set<String> HIDDEN = new TreeSet<>();
  private static int classes = 0;

  private static void fault(int rule, String what) {
    wrong++;
    System.out.println("LANGUAGE rule " + rule + ": " + what);
  }

  private static final class Scanner extends TreeScanner<Void, String> {
    private final CompilationUnitTree unit;
    private final SourcePositions positions;

    Scanner(CompilationUnitTree unit, SourcePositions positions) {
      this.unit = unit;
      this.positions = positions;
    }

    private long line(long position) {
      return unit.getLineMap().getLineNumber(position);
    }

    @Override
    public Void scan(Tree tree, String method) {
      if (tree != null && BANNED.contains(tree.getKind())) {
        fault(6, tree.getKind() + " in line " + line(positions.getStartPosition(unit, tree)));
      }
      return super.scan(tree, method);
    }

    @Override
    public Void visitClass(ClassTree tree, String method) {
      classes++;
      boolean isFace = tree.getSimpleName().contentEquals("HornMaze");
      if (!isFace && !tree.getModifiers().getFlags().contains(Modifier.STATIC)) {
        fault(2, tree.getSimpleName() + " is not static");
      }
      int fields = 0;
      for (Tree member : tree.getMembers()) {
        if (member instanceof VariableTree field) {
          Set<Modifier> flags = field.getModifiers().getFlags();
          if (!flags.contains(Modifier.STATIC)) {
            fields++;
          } else if (!flags.contains(Modifier.FINAL) || !CONSTANT_TYPES.contains(field.getType().toString())) {
            fault(5, "static " + field.getName());
          }
          if (isFace && !flags.contains(Modifier.PRIVATE) && !field.getName().contentEquals("NONE")) {
            fault(1, "field " + field.getName() + " can be seen");
          }
        } else if (member instanceof BlockTree) {
          fault(5, "an initialiser block");
        } else if (member instanceof MethodTree own) {
          Set<Modifier> flags = own.getModifiers().getFlags();
          if (isFace && flags.contains(Modifier.PUBLIC)) {
            PUBLIC.add(own.getName().toString());
          } else {
            HIDDEN.add(own.getName().toString());
            if (isFace && !flags.contains(Modifier.PRIVATE)) {
              fault(1, "method " + own.getName() + " can be seen");
            }
          }
        }
      }
      if (fields > 20) {
        fault(11, tree.getSimpleName() + " has " + fields + " fields");
      }
      return super.visitClass(tree, method);
    }

    @Override
    public Void visitMethod(MethodTree tree, String method) {
      long length = 1 + line(positions.getEndPosition(unit, tree)) - line(positions.getStartPosition(unit, tree));
      if (length > 60) {
        fault(11, tree.getName() + " has " + length + " lines");
      }
      if (tree.getParameters().size() > 7) {
        fault(11, tree.getName() + " has " + tree.getParameters().size() + " parameters");
      }
      CALLS.computeIfAbsent(tree.getName().toString(), key -> new TreeSet<>());
      return super.visitMethod(tree, tree.getName().toString());
    }

    @Override
    public Void visitMethodInvocation(MethodInvocationTree tree, String method) {
      String called = tree.getMethodSelect().toString();
      if (called.matches("(System|Arrays|Math|Integer|Long|String|Character|NAMES)\\..*") && !LIBRARY.contains(called)) {
        fault(4, "the library's " + called);
      }
      if (method != null) {
        CALLS.computeIfAbsent(method, key -> new TreeSet<>()).add(called.substring(called.lastIndexOf('.') + 1));
      }
      return super.visitMethodInvocation(tree, method);
    }

    @Override
    public Void visitNewClass(NewClassTree tree, String method) {
      if (tree.getClassBody() != null) {
        fault(2, "an anonymous class");
      }
      return super.visitNewClass(tree, method);
    }

    @Override
    public Void visitBinary(BinaryTree tree, String method) {
      if (tree.getKind() == Tree.Kind.PLUS && (tree.getLeftOperand().getKind() == Tree.Kind.STRING_LITERAL
          || tree.getRightOperand().getKind() == Tree.Kind.STRING_LITERAL)) {
        fault(10, "texts joined by +");
      }
      return super.visitBinary(tree, method);
    }

    @Override
    public Void visitWhileLoop(WhileLoopTree tree, String method) {
      if (!tree.getCondition().toString().contains("next < length")) {
        fault(9, "a loop whose end can't be seen: " + tree.getCondition());
      }
      return super.visitWhileLoop(tree, method);
    }

    @Override
    public Void visitForLoop(ForLoopTree tree, String method) {
      if (tree.getCondition() == null || !tree.getCondition().toString().matches("(?s).*[<>].*")) {
        fault(9, "a loop without a bound: " + tree.getCondition());
      }
      return super.visitForLoop(tree, method);
    }
  }

  /** Which methods can be come to from one. */
  private static Set<String> reached(String from) {
    Set<String> found = new TreeSet<>();
    Deque<String> open = new ArrayDeque<>(CALLS.getOrDefault(from, Set.of()));
    while (!open.isEmpty()) {
      String next = open.pop();
      if (CALLS.containsKey(next) && found.add(next)) {
        open.addAll(CALLS.get(next));
      }
    }
    return found;
  }

  private static int depth(String method, Map<String, Set<String>> reached, Map<String, Integer> known) {
    Integer depth = known.get(method);
    if (depth != null) {
      return depth;
    }
    Set<String> circle = new TreeSet<>(Set.of(method));
    for (String other : reached.get(method)) {
      if (reached.get(other).contains(method)) {
        circle.add(other);
      }
    }
    int most = 0;
    for (String one : circle) {
      for (String called : CALLS.get(one)) {
        if (CALLS.containsKey(called) && !circle.contains(called)) {
          most = Math.max(most, depth(called, reached, known));
        }
      }
    }
    for (String one : circle) {
      known.put(one, most + 1);
    }
    return most + 1;
  }

  private static void checkFace() {
    Set<String> due = new TreeSet<>(List.of(("place paint word lead hear doors feed end row stray law fault force goes "
        + "barred call tear after open fewest ways spell without spare cycle trace stands pair which farthest bar plod "
        + "sight ask hold drop held kth rank about near between walker where say horn drawn image back count status")
        .split(" ")));
    due.add("<init>");
    if (!due.equals(PUBLIC)) {
      fault(1, "the face is " + PUBLIC);
    }
    for (String name : HIDDEN) {
      if (PUBLIC.contains(name) && !name.equals("<init>")) {
        fault(1, "a method inside bears the public name " + name);
      }
    }
  }

  public static void main(String[] args) throws Exception {
    JavaCompiler compiler = ToolProvider.getSystemJavaCompiler();
    StandardJavaFileManager files = compiler.getStandardFileManager(null, null, null);
    File file = new File(args.length > 0 ? args[0] : "src/main/java/HornMaze.java");
    JavacTask task = (JavacTask) compiler.getTask(null, files, null, null, null, files.getJavaFileObjects(file));
    for (CompilationUnitTree unit : task.parse()) {
      for (ImportTree used : unit.getImports()) {
        if (!used.getQualifiedIdentifier().toString().matches("java\\.util\\.(Arrays|ArrayList|List)")) {
          fault(4, "import of " + used.getQualifiedIdentifier());
        }
      }
      new Scanner(unit, Trees.instance(task).getSourcePositions()).scan(unit, null);
    }
    if (classes > 12) {
      fault(11, classes + " classes");
    }
    checkFace();
    Map<String, Set<String>> reached = new TreeMap<>();
    for (String method : CALLS.keySet()) {
      reached.put(method, reached(method));
    }
    Map<String, Integer> known = new TreeMap<>();
    for (String method : CALLS.keySet()) {
      int depth = depth(method, reached, known);
      if (depth > 8) {
        fault(11, "calls " + depth + " deep from " + method);
      }
      if (args.length > 1 && depth >= 7) {
        System.out.println(method + " " + depth);
      }
    }
    if (wrong > 0) {
      System.exit(1);
    }
  }
}
