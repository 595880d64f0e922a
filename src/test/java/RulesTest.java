import com.sun.source.tree.AssignmentTree;
import com.sun.source.tree.BinaryTree;
import com.sun.source.tree.ClassTree;
import com.sun.source.tree.CompilationUnitTree;
import com.sun.source.tree.CompoundAssignmentTree;
import com.sun.source.tree.ConditionalExpressionTree;
import com.sun.source.tree.ExpressionTree;
import com.sun.source.tree.ForLoopTree;
import com.sun.source.tree.IdentifierTree;
import com.sun.source.tree.IfTree;
import com.sun.source.tree.LiteralTree;
import com.sun.source.tree.MethodInvocationTree;
import com.sun.source.tree.MethodTree;
import com.sun.source.tree.NewArrayTree;
import com.sun.source.tree.NewClassTree;
import com.sun.source.tree.Tree;
import com.sun.source.tree.UnaryTree;
import com.sun.source.tree.VariableTree;
import com.sun.source.tree.WhileLoopTree;
import com.sun.source.util.JavacTask;
import com.sun.source.util.TreePath;
import com.sun.source.util.TreePathScanner;
import com.sun.source.util.TreeScanner;
import com.sun.source.util.Trees;
import java.io.IOException;
import java.nio.file.Path;
import java.util.EnumSet;
import java.util.HashMap;
import java.util.Map;
import java.util.Set;
import java.util.TreeMap;
import java.util.TreeSet;
import javax.lang.model.element.Element;
import javax.lang.model.element.ElementKind;
import javax.lang.model.element.ExecutableElement;
import javax.lang.model.element.Modifier;
import javax.lang.model.element.VariableElement;
import javax.lang.model.type.TypeKind;
import javax.lang.model.type.TypeMirror;
import javax.tools.JavaCompiler;
import javax.tools.StandardJavaFileManager;
import javax.tools.ToolProvider;

/** Rules of LANGUAGE.md that can be seen from the source's trees and types, as the compiler has them. */
final class RulesTest extends TreePathScanner<Void, Void> {
  private static final int DEEPEST = 8;
  private static final int FEWEST_CALLERS = 50;
  /** The calls that may come back to themselves; they carry their depth. */
  private static final Set<String> RECURSIVE = Set.of("Voice.body");

  /** Rule 4: what is called of the library. */
  private static final Set<String> LIBRARY = Set.of(
      "String.length", "String.charAt", "String.isEmpty", "String.equals", "String.indexOf", "String.substring",
      "String.toCharArray", "Math.abs", "Math.max", "Math.min", "Math.floorDiv", "Math.floorMod", "System.arraycopy",
      "Arrays.copyOf", "Arrays.copyOfRange", "Arrays.fill", "Integer.bitCount", "Integer.compare", "Long.compare");

  /** Rules 2 and 6: what never stands there; and double and float numbers, for which there is no need. */
  private static final Set<Tree.Kind> UNWANTED = EnumSet.of(
      Tree.Kind.THROW, Tree.Kind.TRY, Tree.Kind.CATCH, Tree.Kind.SYNCHRONIZED, Tree.Kind.ASSERT, Tree.Kind.ANNOTATION,
      Tree.Kind.LAMBDA_EXPRESSION, Tree.Kind.MEMBER_REFERENCE, Tree.Kind.BINDING_PATTERN, Tree.Kind.INSTANCE_OF,
      Tree.Kind.DOUBLE_LITERAL, Tree.Kind.FLOAT_LITERAL, Tree.Kind.IMPORT, Tree.Kind.PACKAGE, Tree.Kind.ENHANCED_FOR_LOOP,
      Tree.Kind.DO_WHILE_LOOP, Tree.Kind.NULL_LITERAL);

  private final Trees trees;
  private final CompilationUnitTree unit;
  /** Which methods each method calls, the library's too. */
  private final Map<String, Set<String>> calls = new TreeMap<>();

  private RulesTest(Trees trees, CompilationUnitTree unit) {
    this.trees = trees;
    this.unit = unit;
  }

  public static void main(String[] args) throws IOException {
    JavaCompiler compiler = ToolProvider.getSystemJavaCompiler();
    try (StandardJavaFileManager files = compiler.getStandardFileManager(null, null, null)) {
      Path source = Path.of("src/main/java/KnifeDoors.java");
      JavacTask task = (JavacTask) compiler.getTask(null, files, null, null, null, files.getJavaFileObjects(source));
      CompilationUnitTree unit = task.parse().iterator().next();
      task.analyze();
      RulesTest rules = new RulesTest(Trees.instance(task), unit);
      rules.scan(unit, null);
      rules.depths();
    }
    Due.end();
  }

  private void holds(String rule, Tree tree, boolean isSo) {
    long line = unit.getLineMap().getLineNumber(trees.getSourcePositions().getStartPosition(unit, tree));
    Due.due(rule + ", line " + line + " (" + tree.getKind() + ")", isSo ? 1 : 0, 1);
  }

  // ---- what stands there

  @Override public Void scan(Tree tree, Void v) {
    if (tree != null && UNWANTED.contains(tree.getKind())) holds("rules 2, 3, 6: unwanted", tree, false);
    return super.scan(tree, v);
  }

  @Override public Void visitClass(ClassTree tree, Void v) {
    boolean isOutermost = getCurrentPath().getParentPath().getLeaf() == unit;
    Set<Modifier> modifiers = tree.getModifiers().getFlags();
    if (isOutermost) {
      holds("rule 1: public and final", tree, modifiers.equals(EnumSet.of(Modifier.PUBLIC, Modifier.FINAL)));
    } else {
      boolean isOpen = modifiers.contains(Modifier.PUBLIC) || modifiers.contains(Modifier.PROTECTED);
      holds("rules 1, 2: static inside", tree, modifiers.contains(Modifier.STATIC) && !isOpen);
      holds("rule 2: a member, no local class", tree,
          getCurrentPath().getParentPath().getLeaf() instanceof ClassTree && tree.getSimpleName().length() > 0);
    }
    for (Tree member : tree.getMembers()) {
      holds("rule 5: no initialiser block", member, member.getKind() != Tree.Kind.BLOCK);
    }
    return super.visitClass(tree, v);
  }

  @Override public Void visitVariable(VariableTree tree, Void v) {
    VariableElement variable = (VariableElement) trees.getElement(getCurrentPath());
    TypeMirror type = variable.asType();
    holds("rule 3: type " + type, tree, isType(type));
    if (variable.getModifiers().contains(Modifier.STATIC)) {
      boolean isFinal = variable.getModifiers().contains(Modifier.FINAL);
      boolean isArray = type.getKind() == TypeKind.ARRAY;
      boolean isWrittenOut = tree.getInitializer() instanceof NewArrayTree a && a.getInitializers() != null
          && a.getInitializers().stream().allMatch(e -> !(e instanceof NewArrayTree));
      holds("rule 5: final", tree, isFinal);
      holds("rule 5: a constant, or written out", tree, isArray ? isWrittenOut : variable.getConstantValue() != null);
    }
    return super.visitVariable(tree, v);
  }

  private static boolean isType(TypeMirror type) {
    String name = type.toString();
    if (name.startsWith("KnifeDoors")) return !name.endsWith("[][]");
    return Set.of("int", "long", "boolean", "int[]", "java.lang.String").contains(name);
  }

  @Override public Void visitLiteral(LiteralTree tree, Void v) {
    if (tree.getValue() instanceof String s) {
      holds("rule 4: signs 1 to 127", tree, s.chars().allMatch(sign -> sign >= 1 && sign <= 127));
    }
    return super.visitLiteral(tree, v);
  }

  @Override public Void visitNewClass(NewClassTree tree, Void v) {
    holds("rule 12: made but once", tree, isMadeOnce());
    holds("rule 2: no anonymous class", tree, tree.getClassBody() == null);
    call("make " + trees.getTypeMirror(getCurrentPath()), "");
    return super.visitNewClass(tree, v);
  }

  @Override public Void visitNewArray(NewArrayTree tree, Void v) {
    holds("rule 12: made but once", tree, isMadeOnce());
    for (ExpressionTree length : tree.getDimensions()) {
      holds("rule 7: a length that is fixed", length, isFixed(length));
    }
    return super.visitNewArray(tree, v);
  }

  private boolean isMadeOnce() {
    String in = method();
    return in.isEmpty() || in.endsWith(".<init>");
  }

  // ---- what is worked out

  @Override public Void visitBinary(BinaryTree tree, Void v) {
    boolean isText = isText(tree.getLeftOperand()) || isText(tree.getRightOperand());
    holds("rules 6, 10: no texts joined or compared by signs", tree, !isText);
    boolean divides = tree.getKind() == Tree.Kind.DIVIDE || tree.getKind() == Tree.Kind.REMAINDER;
    if (divides && !isFixed(tree.getRightOperand())) {
      holds("rule 7: a divisor that is looked at", tree, isLookedAt(tree.getRightOperand()));
    }
    return super.visitBinary(tree, v);
  }

  @Override public Void visitCompoundAssignment(CompoundAssignmentTree tree, Void v) {
    boolean divides = tree.getKind() == Tree.Kind.DIVIDE_ASSIGNMENT || tree.getKind() == Tree.Kind.REMAINDER_ASSIGNMENT;
    holds("rules 7, 10: joins and divides nothing", tree, !divides && !isText(tree.getVariable()));
    return super.visitCompoundAssignment(tree, v);
  }

  private boolean isText(Tree tree) {
    TypeMirror type = trees.getTypeMirror(new TreePath(getCurrentPath(), tree));
    return type != null && type.toString().equals("java.lang.String");
  }

  /** A number or a constant that isn't 0, or a sum of such. */
  private boolean isFixed(Tree tree) {
    if (tree instanceof LiteralTree literal) return !literal.getValue().equals(0);
    if (tree.getKind() == Tree.Kind.PLUS && tree instanceof BinaryTree sum) {
      return isFixed(sum.getLeftOperand()) && isFixed(sum.getRightOperand());
    }
    Element element = trees.getElement(new TreePath(getCurrentPath(), tree));
    Object value = element instanceof VariableElement constant ? constant.getConstantValue() : null;
    return value != null && !value.equals(0);
  }

  /** Some condition that stands around it names all that it names. */
  private boolean isLookedAt(Tree divisor) {
    Set<String> names = names(divisor);
    TreePath path = getCurrentPath();
    for (TreePath around = path; around != null && !(around.getLeaf() instanceof MethodTree);
        around = around.getParentPath()) {
      Tree condition = null;
      if (around.getLeaf() instanceof ConditionalExpressionTree choice) condition = choice.getCondition();
      if (around.getLeaf() instanceof IfTree choice) condition = choice.getCondition();
      if (condition != null && names(condition).containsAll(names)) return true;
    }
    return false;
  }

  private static Set<String> names(Tree tree) {
    Set<String> names = new TreeSet<>();
    new TreeScanner<Void, Void>() {
      @Override public Void visitIdentifier(IdentifierTree name, Void v) {
        names.add(name.getName().toString());
        return null;
      }
    }.scan(tree, null);
    return names;
  }

  // ---- loops

  @Override public Void visitForLoop(ForLoopTree tree, Void v) {
    boolean isCounted = tree.getInitializer().size() == 1 && tree.getUpdate().size() == 1 && tree.getCondition() != null;
    holds("rule 9: a counter", tree, isCounted && tree.getInitializer().get(0) instanceof VariableTree);
    if (isCounted && tree.getInitializer().get(0) instanceof VariableTree counter) {
      String name = counter.getName().toString();
      holds("rule 9: the counter against a bound", tree, names(tree.getCondition()).contains(name));
      holds("rule 9: the counter goes on", tree, changed(tree.getUpdate().get(0)).contains(name));
      holds("rule 9: by nothing else", tree, !changed(tree.getStatement()).contains(name));
    }
    return super.visitForLoop(tree, v);
  }

  @Override public Void visitWhileLoop(WhileLoopTree tree, Void v) {
    Set<String> counters = names(tree.getCondition());
    counters.retainAll(changed(tree.getStatement()));
    holds("rule 9: a counter", tree, !counters.isEmpty());
    return super.visitWhileLoop(tree, v);
  }

  /** The variables that are set, or counted up or down. */
  private static Set<String> changed(Tree tree) {
    Set<String> changed = new TreeSet<>();
    new TreeScanner<Void, Void>() {
      @Override public Void visitUnary(UnaryTree t, Void v) {
        Set<Tree.Kind> counts = EnumSet.of(Tree.Kind.POSTFIX_INCREMENT, Tree.Kind.POSTFIX_DECREMENT,
            Tree.Kind.PREFIX_INCREMENT, Tree.Kind.PREFIX_DECREMENT);
        if (counts.contains(t.getKind())) changed.add(t.getExpression().toString());
        return super.visitUnary(t, v);
      }

      @Override public Void visitAssignment(AssignmentTree t, Void v) {
        changed.add(t.getVariable().toString());
        return super.visitAssignment(t, v);
      }

      @Override public Void visitCompoundAssignment(CompoundAssignmentTree t, Void v) {
        changed.add(t.getVariable().toString());
        return super.visitCompoundAssignment(t, v);
      }
    }.scan(tree, null);
    return changed;
  }

  // ---- calls

  @Override public Void visitMethodInvocation(MethodInvocationTree tree, Void v) {
    ExecutableElement called = (ExecutableElement) trees.getElement(getCurrentPath());
    String name = name(called);
    boolean isConstructor = called.getKind() == ElementKind.CONSTRUCTOR;
    boolean isOwn = called.getEnclosingElement().toString().startsWith("KnifeDoors");
    holds("rule 4: " + name, tree, isOwn || isConstructor || LIBRARY.contains(name));
    if (!isConstructor) call(name, String.valueOf(called.getParameters()));
    return super.visitMethodInvocation(tree, v);
  }

  private void call(String name, String parameters) {
    String from = method();
    if (!from.isEmpty()) calls.computeIfAbsent(from, f -> new TreeSet<>()).add(name);
    if (RECURSIVE.contains(name)) {
      Due.due("rule 8: " + name + " carries its depth", parameters.contains("depth") ? 1 : 0, 1);
    }
  }

  /** The method that what is looked at stands in; none, if it stands at a field. */
  private String method() {
    for (TreePath path = getCurrentPath(); path != null; path = path.getParentPath()) {
      if (path.getLeaf() instanceof MethodTree) return name(trees.getElement(path));
    }
    return "";
  }

  private static String name(Element method) {
    return method.getEnclosingElement().getSimpleName() + "." + method.getSimpleName();
  }

  private void depths() {
    Map<String, Integer> depths = new HashMap<>();
    Due.due("callers were found (" + calls.size() + ")", calls.size() >= FEWEST_CALLERS ? 1 : 0, 1);
    for (String method : calls.keySet()) {
      int depth = depth(method, depths, new TreeSet<>());
      Due.due("rule 11: " + method + " goes " + depth + " deep", depth <= DEEPEST ? 1 : 0, 1);
    }
  }

  private int depth(String method, Map<String, Integer> depths, Set<String> open) {
    if (depths.containsKey(method)) return depths.get(method);
    open.add(method);
    int deepest = 0;
    for (String called : calls.getOrDefault(method, Set.of())) {
      boolean isBack = open.contains(called);
      if (isBack) Due.due("rule 8: " + called + " comes back by " + method, RECURSIVE.contains(called) ? 1 : 0, 1);
      if (!isBack) deepest = Math.max(deepest, depth(called, depths, open));
    }
    open.remove(method);
    depths.put(method, deepest + 1);
    return deepest + 1;
  }
}
