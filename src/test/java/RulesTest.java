import com.sun.source.tree.*;
import com.sun.source.util.JavacTask;
import com.sun.source.util.TreePath;
import com.sun.source.util.TreePathScanner;
import com.sun.source.util.Trees;
import java.io.File;
import java.util.HashMap;
import java.util.HashSet;
import java.util.List;
import java.util.Map;
import java.util.Set;
import java.util.TreeSet;
import javax.lang.model.element.Element;
import javax.lang.model.element.ElementKind;
import javax.lang.model.element.Modifier;
import javax.lang.model.type.ArrayType;
import javax.lang.model.type.TypeKind;
import javax.lang.model.type.TypeMirror;
import javax.tools.JavaCompiler;
import javax.tools.StandardJavaFileManager;
import javax.tools.ToolProvider;

/** The rules of LANGUAGE.md that the source alone can break, by the compiler's own tree of it. */
public final class RulesTest extends TreePathScanner<Void, Void> {
  private static final Set<String> LIBRARY = Set.of(
      "java.lang.String.length", "java.lang.String.charAt", "java.lang.Math.max", "java.lang.Math.min",
      "java.util.Arrays.fill", "java.lang.System.arraycopy", "java.lang.Object.<init>");
  private static final Set<String> TYPES = Set.of("java.lang.String");

  private final Trees trees;
  private final CompilationUnitTree unit;
  private final Set<String> faceNames = new HashSet<>();
  private final Map<Element, Set<Element>> calls = new HashMap<>();
  private int classes = 0;
  private int loops = 0;

  private RulesTest(Trees trees, CompilationUnitTree unit) {
    this.trees = trees;
    this.unit = unit;
  }

  public static void main(String[] args) throws Exception {
    JavaCompiler compiler = ToolProvider.getSystemJavaCompiler();
    StandardJavaFileManager files = compiler.getStandardFileManager(null, null, null);
    JavacTask task = (JavacTask) compiler.getTask(null, files, null, List.of("-proc:none"), null,
        files.getJavaFileObjects(new File("src/main/java/LostAndTaxed.java")));
    CompilationUnitTree unit = task.parse().iterator().next();
    task.analyze();
    RulesTest test = new RulesTest(Trees.instance(task), unit);
    test.readFace();
    test.scan(unit, null);
    test.lookBack();
    Check.end();
  }

  private void readFace() {
    Check.holds("no package line", unit.getPackageName() == null);
    Check.due("one class outside", unit.getTypeDecls().size(), 1);
    for (Tree member : ((ClassTree) unit.getTypeDecls().get(0)).getMembers()) {
      if (member instanceof MethodTree m && m.getModifiers().getFlags().contains(Modifier.PUBLIC)) {
        faceNames.add(m.getName().toString());
      }
    }
  }

  private void lookBack() {
    Check.holds("11: some twelve classes at most, here " + classes, classes <= 12);
    Check.holds("loops are seen", loops > 20);
    int deepest = 0;
    for (Element method : calls.keySet()) {
      deepest = Math.max(deepest, depthOf(method, 1));
    }
    Check.holds("11: calls go eight deep at most, here " + deepest, deepest <= 8);
    Check.holds("calls are seen", deepest > 3);
  }

  private int depthOf(Element method, int depth) {
    int deepest = depth;
    // Beyond this depth the calls can only go round.
    if (depth <= 40) {
      for (Element called : calls.getOrDefault(method, Set.of())) {
        deepest = Math.max(deepest, depthOf(called, depth + 1));
      }
    }
    return deepest;
  }

  private void refuse(String rule, Tree tree) {
    Check.holds(rule + ": line " + lineOf(trees.getSourcePositions().getStartPosition(unit, tree)) + ": " + tree, false);
  }

  private long lineOf(long position) {
    return unit.getLineMap().getLineNumber(position);
  }

  private Element elementOf(Tree tree) {
    return trees.getElement(new TreePath(getCurrentPath(), tree));
  }

  private MethodTree methodAround() {
    for (TreePath path = getCurrentPath(); path != null; path = path.getParentPath()) {
      if (path.getLeaf() instanceof MethodTree method) {
        return method;
      }
    }
    return null;
  }

  private static boolean isOwn(Element element) {
    for (Element e = element; e != null; e = e.getEnclosingElement()) {
      if (e.getKind() == ElementKind.CLASS && e.getSimpleName().contentEquals("LostAndTaxed")) {
        return true;
      }
    }
    return false;
  }

  @Override
  public Void visitClass(ClassTree tree, Void p) {
    classes++;
    Tree parent = getCurrentPath().getParentPath().getLeaf();
    Set<Modifier> flags = tree.getModifiers().getFlags();
    if (parent instanceof CompilationUnitTree) {
      Check.holds("1: public and final", flags.contains(Modifier.PUBLIC) && flags.contains(Modifier.FINAL));
    } else {
      Check.holds("2: " + tree.getSimpleName() + " stands in the class", parent instanceof ClassTree);
      Check.holds("1: " + tree.getSimpleName() + " is static", flags.contains(Modifier.STATIC));
      Check.holds("1: " + tree.getSimpleName() + " is private or package-visible",
          !flags.contains(Modifier.PUBLIC) && !flags.contains(Modifier.PROTECTED));
    }
    int fields = 0;
    for (Tree member : tree.getMembers()) {
      if (member instanceof VariableTree field && !field.getModifiers().getFlags().contains(Modifier.STATIC)) {
        fields++;
      }
      if (member instanceof BlockTree block && block.isStatic()) {
        refuse("5: no static block", block);
      }
    }
    Check.holds("11: " + tree.getSimpleName() + " has some twenty fields at most", fields <= 20);
    return super.visitClass(tree, p);
  }

  @Override
  public Void visitVariable(VariableTree tree, Void p) {
    Set<Modifier> flags = tree.getModifiers().getFlags();
    TypeMirror type = trees.getTypeMirror(new TreePath(getCurrentPath(), tree.getType()));
    Check.holds("3: " + tree.getName() + " is of a type that is allowed: " + type, isAllowed(type));
    if (flags.contains(Modifier.STATIC)) {
      Check.holds("5: " + tree.getName() + " is final", flags.contains(Modifier.FINAL));
      Check.holds("5: " + tree.getName() + " is a constant", type.getKind() == TypeKind.INT
          || type.getKind() == TypeKind.LONG || type.toString().equals("java.lang.String"));
    }
    boolean inLostAndTaxed = getCurrentPath().getParentPath().getLeaf() instanceof ClassTree around
        && around.getSimpleName().contentEquals("LostAndTaxed");
    if (inLostAndTaxed && !Set.of("BAD", "NO", "FULL", "NONE").contains(tree.getName().toString())) {
      Check.holds("1: " + tree.getName() + " is private", flags.contains(Modifier.PRIVATE));
    }
    return super.visitVariable(tree, p);
  }

  private static boolean isAllowed(TypeMirror type) {
    int dimensions = 0;
    TypeMirror inner = type;
    while (inner instanceof ArrayType array) {
      inner = array.getComponentType();
      dimensions++;
    }
    boolean number = inner.getKind().isPrimitive() && inner.getKind() != TypeKind.BOOLEAN;
    boolean own = inner.toString().startsWith("LostAndTaxed");
    if (dimensions == 2) {
      return number;
    }
    return dimensions < 2
        && (inner.getKind().isPrimitive() || own || dimensions == 0 && TYPES.contains(inner.toString()));
  }

  @Override
  public Void visitMethod(MethodTree tree, Void p) {
    Element element = trees.getElement(getCurrentPath());
    calls.computeIfAbsent(element, e -> new HashSet<>());
    String name = tree.getName().toString();
    boolean open = tree.getModifiers().getFlags().contains(Modifier.PUBLIC);
    boolean outer = element.getEnclosingElement().getSimpleName().contentEquals("LostAndTaxed");
    if (!name.equals("<init>")) {
      Check.holds("1: " + name + " is public or private",
          open && outer || tree.getModifiers().getFlags().contains(Modifier.PRIVATE));
      Check.holds("1: " + name + " bears no public name", open || !faceNames.contains(name));
      Check.holds("6: " + name, !Set.of("equals", "hashCode", "toString").contains(name));
    }
    Check.holds("11: " + name + " takes seven at most", tree.getParameters().size() <= 7);
    if (trees.getSourcePositions().getEndPosition(unit, tree) > 0) {
      long lines = lineOf(trees.getSourcePositions().getEndPosition(unit, tree))
          - lineOf(trees.getSourcePositions().getStartPosition(unit, tree)) + 1;
      Check.holds("11: " + name + " has some sixty lines at most, here " + lines, lines <= 60);
    }
    return super.visitMethod(tree, p);
  }

  @Override
  public Void visitMethodInvocation(MethodInvocationTree tree, Void p) {
    noteCall(elementOf(tree.getMethodSelect()), tree);
    return super.visitMethodInvocation(tree, p);
  }

  private void noteCall(Element called, Tree tree) {
    if (isOwn(called)) {
      MethodTree around = methodAround();
      if (around != null) {
        Element from = trees.getElement(trees.getPath(unit, around));
        calls.computeIfAbsent(from, e -> new HashSet<>()).add(called);
      }
      return;
    }
    String name = called.getEnclosingElement() + "." + called.getSimpleName();
    if (!LIBRARY.contains(name)) {
      refuse("4: not of the library, " + name, tree);
    }
  }

  @Override
  public Void visitNewClass(NewClassTree tree, Void p) {
    if (tree.getClassBody() != null) {
      refuse("2: no class without a name", tree);
    }
    noteCall(trees.getElement(getCurrentPath()), tree);
    madeInConstructorsAlone(tree);
    return super.visitNewClass(tree, p);
  }

  @Override
  public Void visitNewArray(NewArrayTree tree, Void p) {
    madeInConstructorsAlone(tree);
    return super.visitNewArray(tree, p);
  }

  /** 12: what a run makes is counted, so no call makes anything. */
  private void madeInConstructorsAlone(Tree tree) {
    MethodTree around = methodAround();
    boolean inConstructor = around == null || around.getName().contentEquals("<init>");
    Check.holds("12: made in a constructor: " + tree, inConstructor);
  }

  @Override
  public Void visitForLoop(ForLoopTree tree, Void p) {
    loops++;
    Check.holds("9: a loop has an end: " + tree.getCondition(),
        tree.getCondition() != null && tree.getCondition().toString().contains("<")
            || tree.getCondition() != null && tree.getCondition().toString().contains(">"));
    Check.due("9: a loop has a counter", tree.getUpdate().size(), 1);
    Check.due("9: of its own", tree.getInitializer().size(), 1);
    return super.visitForLoop(tree, p);
  }

  @Override
  public Void visitWhileLoop(WhileLoopTree tree, Void p) {
    refuse("9: all loops count here", tree);
    return super.visitWhileLoop(tree, p);
  }

  @Override
  public Void visitDoWhileLoop(DoWhileLoopTree tree, Void p) {
    refuse("9: all loops count here", tree);
    return super.visitDoWhileLoop(tree, p);
  }

  @Override
  public Void visitBinary(BinaryTree tree, Void p) {
    TypeMirror type = trees.getTypeMirror(getCurrentPath());
    if (type != null && type.toString().equals("java.lang.String")) {
      refuse("10: no texts joined by +", tree);
    }
    if (tree.getKind() == Tree.Kind.DIVIDE || tree.getKind() == Tree.Kind.REMAINDER) {
      dividesBySomething(tree.getRightOperand());
    }
    return super.visitBinary(tree, p);
  }

  /** 7: a number, a constant, or one of those of which it has been seen that they are not 0. */
  private void dividesBySomething(ExpressionTree divisor) {
    Set<String> looked = new TreeSet<>(Set.of(
        "corners", "smaller", "commonDivisor(above, below)", "MOST_UNDONE"));
    boolean number = divisor instanceof LiteralTree && !divisor.toString().equals("0");
    Check.holds("7: " + divisor + " is looked at before it divides", number || looked.contains(divisor.toString()));
  }

  @Override
  public Void visitLambdaExpression(LambdaExpressionTree tree, Void p) {
    refuse("2: no lambda", tree);
    return null;
  }

  @Override
  public Void visitMemberReference(MemberReferenceTree tree, Void p) {
    refuse("2: no method reference", tree);
    return null;
  }

  @Override
  public Void visitThrow(ThrowTree tree, Void p) {
    refuse("6: no throw", tree);
    return null;
  }

  @Override
  public Void visitTry(TryTree tree, Void p) {
    refuse("6: no try", tree);
    return null;
  }

  @Override
  public Void visitSynchronized(SynchronizedTree tree, Void p) {
    refuse("6: no synchronized", tree);
    return null;
  }

  @Override
  public Void visitAssert(AssertTree tree, Void p) {
    refuse("6: no assert", tree);
    return null;
  }

  @Override
  public Void visitTypeCast(TypeCastTree tree, Void p) {
    TypeMirror type = trees.getTypeMirror(new TreePath(getCurrentPath(), tree.getType()));
    Check.holds("6: casts of numbers alone: " + tree, type.getKind().isPrimitive());
    return super.visitTypeCast(tree, p);
  }
}
