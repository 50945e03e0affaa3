import com.sun.source.tree.AssertTree;
import com.sun.source.tree.BinaryTree;
import com.sun.source.tree.ClassTree;
import com.sun.source.tree.CompilationUnitTree;
import com.sun.source.tree.LambdaExpressionTree;
import com.sun.source.tree.LiteralTree;
import com.sun.source.tree.MemberReferenceTree;
import com.sun.source.tree.MethodInvocationTree;
import com.sun.source.tree.MethodTree;
import com.sun.source.tree.NewClassTree;
import com.sun.source.tree.SynchronizedTree;
import com.sun.source.tree.ThrowTree;
import com.sun.source.tree.Tree;
import com.sun.source.tree.TryTree;
import com.sun.source.tree.VariableTree;
import com.sun.source.util.JavacTask;
import com.sun.source.util.SourcePositions;
import com.sun.source.util.TreePath;
import com.sun.source.util.TreePathScanner;
import com.sun.source.util.Trees;
import java.io.File;
import java.util.ArrayList;
import java.util.HashMap;
import java.util.LinkedHashMap;
import java.util.LinkedHashSet;
import java.util.List;
import java.util.Map;
import java.util.Set;
import java.util.StringJoiner;
import java.util.TreeSet;
import javax.lang.model.element.Element;
import javax.lang.model.element.ElementKind;
import javax.lang.model.element.ExecutableElement;
import javax.lang.model.element.Modifier;
import javax.lang.model.type.TypeMirror;
import javax.tools.JavaCompiler;
import javax.tools.StandardJavaFileManager;
import javax.tools.ToolProvider;

/** What ../shared/LANGUAGE.md asks of the source, as far as the compiler's trees tell it. */
public final class LanguageTest {
  private static final int MOST_LINES = 60;
  private static final int MOST_ARGUMENTS = 7;
  private static final int MOST_CALLS = 8;
  private static final int MOST_FIELDS = 20;
  private static final int MOST_CLASSES = 12;

  /** Rule 4, as far as the class needs it. */
  private static final Set<String> LIBRARY = Set.of(
      "String.length()", "String.charAt(int)", "String.isEmpty()", "String.equals(Object)",
      "String.substring(int,int)", "StringBuilder.append(char)", "StringBuilder.append(String)",
      "StringBuilder.append(int)", "StringBuilder.charAt(int)", "StringBuilder.setLength(int)",
      "StringBuilder.length()", "StringBuilder.toString()", "Integer.bitCount(int)",
      "Math.max(int,int)", "Math.max(long,long)", "Math.min(int,int)", "Math.floorMod(int,int)",
      "System.arraycopy(Object,int,Object,int,int)", "Arrays.fill(int[],int)",
      "Arrays.fill(int[],int,int,int)", "Arrays.fill(long[],long)");

  /** Rules 3 and 6: what may be made anew, but for own classes. */
  private static final Set<String> MADE = Set.of("StringBuilder", "IllegalStateException",
      "IllegalArgumentException", "IndexOutOfBoundsException");

  private static final Set<String> OWN = new TreeSet<>();
  // For each method those that it calls, the library's too.
  private static final Map<String, Set<String>> CALLS = new LinkedHashMap<>();
  private static final Map<String, Integer> DEPTHS = new HashMap<>();

  public static void main(String[] args) throws Exception {
    JavaCompiler compiler = ToolProvider.getSystemJavaCompiler();
    try (StandardJavaFileManager files = compiler.getStandardFileManager(null, null, null)) {
      JavacTask task = (JavacTask) compiler.getTask(null, files, null, List.of("-proc:none"), null,
          files.getJavaFileObjects(new File("src/main/java/Pagegarden.java")));
      Iterable<? extends CompilationUnitTree> units = task.parse();
      task.analyze();
      for (CompilationUnitTree unit : units) {
        Check.due("the file has no package", true, () -> unit.getPackageName() == null);
        new Names().scan(unit, null);
        new Rules(unit, Trees.instance(task)).scan(unit, null);
      }
    }
    Check.due("some twelve classes", true, () -> OWN.size() <= MOST_CLASSES);
    callsEnd();
    Check.end("LanguageTest");
  }

  /** Rules 8 and 11: no method calls itself, by others neither; and how deep calls go. */
  private static void callsEnd() {
    for (String method : CALLS.keySet()) {
      Check.due("how deep the calls of " + method + " go", true,
          () -> depth(method, new ArrayList<>()) <= MOST_CALLS);
    }
  }

  private static int depth(String method, List<String> open) {
    if (open.contains(method)) {
      return 1000;
    }
    Integer known = DEPTHS.get(method);
    if (known != null) {
      return known;
    }
    open.add(method);
    int deepest = 0;
    for (String called : CALLS.getOrDefault(method, Set.of())) {
      deepest = Math.max(deepest, depth(called, open));
    }
    open.remove(method);
    DEPTHS.put(method, deepest + 1);
    return deepest + 1;
  }

  /** The classes of the file. */
  private static final class Names extends TreePathScanner<Void, Void> {
    @Override
    public Void visitClass(ClassTree tree, Void none) {
      OWN.add(tree.getSimpleName().toString());
      return super.visitClass(tree, none);
    }
  }

  private static final class Rules extends TreePathScanner<Void, Void> {
    private final CompilationUnitTree unit;
    private final Trees trees;
    private final SourcePositions positions;
    private String method = "";

    Rules(CompilationUnitTree unit, Trees trees) {
      this.unit = unit;
      this.trees = trees;
      positions = trees.getSourcePositions();
    }

    private long line(long position) {
      return unit.getLineMap().getLineNumber(position);
    }

    private String at(Tree tree) {
      return "line " + line(positions.getStartPosition(unit, tree)) + ": ";
    }

    private void never(Tree tree, String what) {
      Check.due(at(tree) + what, "never", () -> "once");
    }

    private Element element() {
      return trees.getElement(getCurrentPath());
    }

    private static String simple(TypeMirror type) {
      return type.toString().replaceAll("[\\w.]+\\.", "");
    }

    /** A builder has some methods from a class of which it is made. */
    private static String ownerOf(Element called) {
      String owner = called.getEnclosingElement().getSimpleName().toString();
      return owner.equals("AbstractStringBuilder") ? "StringBuilder" : owner;
    }

    private static String nameOf(Element called) {
      StringJoiner arguments = new StringJoiner(",", "(", ")");
      for (Element argument : ((ExecutableElement) called).getParameters()) {
        arguments.add(simple(argument.asType()));
      }
      return ownerOf(called) + "." + called.getSimpleName() + arguments;
    }

    @Override
    public Void visitClass(ClassTree tree, Void none) {
      Element own = element();
      boolean isOuter = own.getEnclosingElement().getKind() == ElementKind.PACKAGE;
      Check.due(at(tree) + "a class has a name and stands in the file or in its class", true,
          () -> !own.getSimpleName().toString().isEmpty()
              && (isOuter || own.getEnclosingElement().getKind() == ElementKind.CLASS));
      if (!isOuter) {
        Check.due(at(tree) + "a class inside is private and static", true,
            () -> own.getModifiers().containsAll(Set.of(Modifier.PRIVATE, Modifier.STATIC)));
      }
      long fields = own.getEnclosedElements().stream().filter(e -> e.getKind().isField()
          && !e.getModifiers().contains(Modifier.STATIC)).count();
      Check.due(at(tree) + "some twenty fields", true, () -> fields <= MOST_FIELDS);
      return super.visitClass(tree, none);
    }

    @Override
    public Void visitMethod(MethodTree tree, Void none) {
      long lines = line(positions.getEndPosition(unit, tree))
          - line(positions.getStartPosition(unit, tree)) + 1;
      Check.due(at(tree) + tree.getName() + " is short", true, () -> lines <= MOST_LINES);
      Check.due(at(tree) + tree.getName() + " has few arguments", true,
          () -> tree.getParameters().size() <= MOST_ARGUMENTS);
      String around = method;
      method = nameOf(element());
      CALLS.computeIfAbsent(method, k -> new LinkedHashSet<>());
      super.visitMethod(tree, none);
      method = around;
      return null;
    }

    @Override
    public Void visitMethodInvocation(MethodInvocationTree tree, Void none) {
      Element called = element();
      String name = nameOf(called);
      String owner = ownerOf(called);
      boolean isConstructor = called.getKind() == ElementKind.CONSTRUCTOR;
      Check.due(at(tree) + name + " is own or in the library that is left", true,
          () -> isConstructor || OWN.contains(owner) || LIBRARY.contains(name));
      if (!isConstructor) {
        CALLS.computeIfAbsent(method, k -> new LinkedHashSet<>()).add(name);
      }
      return super.visitMethodInvocation(tree, none);
    }

    @Override
    public Void visitNewClass(NewClassTree tree, Void none) {
      Element made = element();
      String owner = ownerOf(made);
      Check.due(at(tree) + owner + " may be made", true,
          () -> tree.getClassBody() == null && (OWN.contains(owner) || MADE.contains(owner)));
      CALLS.computeIfAbsent(method, k -> new LinkedHashSet<>()).add(nameOf(made));
      return super.visitNewClass(tree, none);
    }

    @Override
    public Void visitThrow(ThrowTree tree, Void none) {
      Check.due(at(tree) + "what is thrown is new, and not by a constructor", true,
          () -> tree.getExpression().getKind() == Tree.Kind.NEW_CLASS
              && !method.contains("<init>"));
      return super.visitThrow(tree, none);
    }

    @Override
    public Void visitVariable(VariableTree tree, Void none) {
      Element own = element();
      String type = simple(own.asType());
      boolean isField = own.getKind().isField();
      Check.due(at(tree) + type + " is a type that is left", true,
          () -> type.matches("(int|long|char|boolean)(\\[\\])?|String|StringBuilder")
              || OWN.contains(type.replace("[]", "")));
      Check.due(at(tree) + "what is static is final", true, () -> !isField
          || !own.getModifiers().contains(Modifier.STATIC)
          || own.getModifiers().contains(Modifier.FINAL));
      return super.visitVariable(tree, none);
    }

    @Override
    public Void visitBinary(BinaryTree tree, Void none) {
      TypeMirror type = trees.getTypeMirror(getCurrentPath());
      Check.due(at(tree) + "no texts are joined by +", false, () -> simple(type).equals("String"));
      boolean isSame = tree.getKind() == Tree.Kind.EQUAL_TO
          || tree.getKind() == Tree.Kind.NOT_EQUAL_TO;
      TypeMirror left = trees.getTypeMirror(new TreePath(getCurrentPath(), tree.getLeftOperand()));
      Check.due(at(tree) + "no texts are compared by ==", false,
          () -> isSame && simple(left).equals("String"));
      return super.visitBinary(tree, none);
    }

    @Override
    public Void visitLiteral(LiteralTree tree, Void none) {
      if (tree.getValue() instanceof String text) {
        Check.due(at(tree) + "a text has signs 1 to 127", true,
            () -> text.chars().allMatch(sign -> sign >= 1 && sign <= 127));
      }
      return super.visitLiteral(tree, none);
    }

    @Override
    public Void visitLambdaExpression(LambdaExpressionTree tree, Void none) {
      never(tree, "a lambda");
      return null;
    }

    @Override
    public Void visitMemberReference(MemberReferenceTree tree, Void none) {
      never(tree, "a method reference");
      return null;
    }

    @Override
    public Void visitTry(TryTree tree, Void none) {
      never(tree, "a try");
      return null;
    }

    @Override
    public Void visitSynchronized(SynchronizedTree tree, Void none) {
      never(tree, "synchronized");
      return null;
    }

    @Override
    public Void visitAssert(AssertTree tree, Void none) {
      never(tree, "assert");
      return null;
    }
  }
}
