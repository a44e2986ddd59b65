import com.sun.source.tree.ArrayTypeTree;
import com.sun.source.tree.AssertTree;
import com.sun.source.tree.AssignmentTree;
import com.sun.source.tree.BinaryTree;
import com.sun.source.tree.ClassTree;
import com.sun.source.tree.CompilationUnitTree;
import com.sun.source.tree.CompoundAssignmentTree;
import com.sun.source.tree.DoWhileLoopTree;
import com.sun.source.tree.ExpressionTree;
import com.sun.source.tree.ForLoopTree;
import com.sun.source.tree.ImportTree;
import com.sun.source.tree.LambdaExpressionTree;
import com.sun.source.tree.LiteralTree;
import com.sun.source.tree.MemberReferenceTree;
import com.sun.source.tree.MethodInvocationTree;
import com.sun.source.tree.MethodTree;
import com.sun.source.tree.NewArrayTree;
import com.sun.source.tree.NewClassTree;
import com.sun.source.tree.SwitchTree;
import com.sun.source.tree.SynchronizedTree;
import com.sun.source.tree.ThrowTree;
import com.sun.source.tree.Tree;
import com.sun.source.tree.TryTree;
import com.sun.source.tree.TypeCastTree;
import com.sun.source.tree.UnaryTree;
import com.sun.source.tree.VariableTree;
import com.sun.source.tree.WhileLoopTree;
import com.sun.source.util.JavacTask;
import com.sun.source.util.SourcePositions;
import com.sun.source.util.TreePath;
import com.sun.source.util.TreePathScanner;
import com.sun.source.util.Trees;
import java.io.File;
import java.lang.reflect.Constructor;
import java.lang.reflect.Field;
import java.lang.reflect.Method;
import java.lang.reflect.Modifier;
import java.util.ArrayList;
import java.util.Arrays;
import java.util.HashMap;
import java.util.HashSet;
import java.util.List;
import java.util.Map;
import java.util.Set;
import java.util.TreeSet;
import javax.lang.model.element.Element;
import javax.lang.model.element.ElementKind;
import javax.lang.model.element.ExecutableElement;
import javax.lang.model.element.TypeElement;
import javax.lang.model.element.VariableElement;
import javax.tools.JavaCompiler;
import javax.tools.StandardJavaFileManager;
import javax.tools.ToolProvider;

/**
 * Checks the rules of LANGUAGE.md that a text can be asked for: it reads the class as the compiler
 * does, and says which line breaks which rule. It is run where the project's files are.
 */
public final class RulesTest {
  private static final File SOURCE = new File("src/main/java/Rexworth.java");
  private static int wrong = 0;

  private static void broken(String rule, String what) {
    wrong++;
    System.out.println("rule " + rule + ": " + what);
  }

  // ---- rule 1, by what the class looks like from outside

  /** The face of the document, as each method is written there, without its parameters' names. */
  private static final String[] FACE = {
    "int type(char) IllegalArgumentException IllegalStateException", "int wipe()",
    "int line() IllegalStateException", "int clear()",
    "char at(int,int) IndexOutOfBoundsException NoSuchElementException",
    "int argument() IllegalStateException", "int bare()",
    "char run(int) IllegalArgumentException UnsupportedOperationException",
    "char end() IllegalStateException", "int error() IllegalStateException NoSuchElementException",
    "int where() IllegalStateException NoSuchElementException",
    "int steps() IllegalStateException",
    "int done(int) IllegalStateException IndexOutOfBoundsException",
    "int said() IllegalStateException",
    "int saidLength(int) IllegalStateException NoSuchElementException",
    "char saidSign(int,int) IllegalStateException NoSuchElementException",
    "boolean isSet() IllegalStateException UnsupportedOperationException",
    "int valueLength() IllegalStateException UnsupportedOperationException",
    "char valueSign(int) IllegalStateException UnsupportedOperationException "
        + "NoSuchElementException",
    "int queued() IllegalStateException",
    "char queuedSign(int,int) IllegalStateException NoSuchElementException",
    "int commands() IllegalStateException",
    "char commandSign(int,int) IllegalStateException NoSuchElementException",
    "int digits() IllegalStateException", "int depth() IllegalStateException",
    "int reckon(int) IllegalArgumentException",
    "char reckoned(int,int) IllegalArgumentException NoSuchElementException", "long checksum()",
    "float doneShare() IllegalStateException",
    "double meanSaid() IllegalStateException ArithmeticException", "boolean isTrue()"
  };

  private static String shape(Method method) {
    StringBuilder b = new StringBuilder(method.getReturnType().getSimpleName());
    b.append(' ').append(method.getName()).append('(');
    for (Class<?> parameter : method.getParameterTypes()) {
      b.append(b.charAt(b.length() - 1) == '(' ? "" : ",").append(parameter.getSimpleName());
    }
    b.append(')');
    for (Class<?> exception : method.getExceptionTypes()) {
      b.append(' ').append(exception.getSimpleName());
    }
    return b.toString();
  }

  private static void face() {
    Class<?> face = Rexworth.class;
    if (!Modifier.isPublic(face.getModifiers()) || !Modifier.isFinal(face.getModifiers())) {
      broken("1", "the class is not public and final");
    }
    Set<String> due = new TreeSet<>(Arrays.asList(FACE));
    Set<String> names = new HashSet<>();
    for (Method method : face.getDeclaredMethods()) {
      if (!Modifier.isPrivate(method.getModifiers()) && !method.isSynthetic()) {
        names.add(method.getName());
        if (!due.remove(shape(method)) || !Modifier.isPublic(method.getModifiers())
            || Modifier.isStatic(method.getModifiers())) {
          broken("1", "not in the document: " + shape(method));
        }
      }
    }
    if (!due.isEmpty()) {
      broken("1", "not in the class: " + due);
    }
    for (Field field : face.getDeclaredFields()) {
      if (!Modifier.isPrivate(field.getModifiers())) {
        broken("1", "a field that is not private: " + field.getName());
      }
    }
    Constructor<?>[] constructors = face.getDeclaredConstructors();
    if (constructors.length != 1 || !Modifier.isPublic(constructors[0].getModifiers())
        || constructors[0].getParameterCount() != 0) {
      broken("1", "the constructor is not that of the document");
    }
    inside(face, names);
  }

  private static void inside(Class<?> face, Set<String> names) {
    for (Class<?> inner : face.getDeclaredClasses()) {
      int modifiers = inner.getModifiers();
      if (!Modifier.isStatic(modifiers) || Modifier.isPublic(modifiers)
          || Modifier.isProtected(modifiers)) {
        broken("1", inner.getSimpleName() + " is not private and static");
      }
      for (Method method : inner.getDeclaredMethods()) {
        if (Modifier.isPrivate(method.getModifiers()) && names.contains(method.getName())) {
          broken("1", inner.getSimpleName() + "." + method.getName() + " bears a public name");
        }
      }
    }
    for (Method method : face.getDeclaredMethods()) {
      if (Modifier.isPrivate(method.getModifiers()) && names.contains(method.getName())) {
        broken("1", method.getName() + " bears a public name");
      }
    }
  }

  // ---- rules 2 to 12, by the text

  /** What a class may take from the library, by class. */
  private static final Map<String, Set<String>> LIBRARY = Map.of(
      "java.lang.String", Set.of("length", "charAt", "isEmpty", "equals", "indexOf", "substring",
          "toCharArray"),
      "java.lang.StringBuilder", Set.of("append", "charAt", "setCharAt", "setLength",
          "deleteCharAt", "reverse", "length", "toString"),
      "java.lang.Integer", Set.of("compare", "max", "min", "bitCount"),
      "java.lang.Long", Set.of("compare", "max", "min", "bitCount"),
      "java.lang.Math", Set.of("abs", "max", "min", "floorDiv", "floorMod"),
      "java.lang.System", Set.of("arraycopy"),
      "java.util.Arrays", Set.of("copyOf", "copyOfRange", "fill"));

  private static final Set<String> EXCEPTIONS = Set.of("IllegalStateException",
      "IllegalArgumentException", "IndexOutOfBoundsException", "ArithmeticException",
      "UnsupportedOperationException", "NoSuchElementException", "RuntimeException");

  private static final Set<String> TYPES = Set.of("int", "long", "short", "byte", "char", "boolean",
      "double", "float", "java.lang.String", "java.lang.StringBuilder");

  private static final class Reader extends TreePathScanner<Void, Void> {
    final Trees trees;
    final CompilationUnitTree unit;
    final SourcePositions positions;
    final Map<Element, Set<Element>> calls = new HashMap<>();
    final List<Element> faces = new ArrayList<>();
    int classes;

    Reader(Trees trees, CompilationUnitTree unit) {
      this.trees = trees;
      this.unit = unit;
      positions = trees.getSourcePositions();
    }

    void say(String rule, Tree tree, String what) {
      long line = unit.getLineMap().getLineNumber(positions.getStartPosition(unit, tree));
      broken(rule, "line " + line + ": " + what);
    }

    Element element(Tree tree) {
      return trees.getElement(TreePath.getPath(unit, tree));
    }

    MethodTree method() {
      for (TreePath path = getCurrentPath(); path != null; path = path.getParentPath()) {
        if (path.getLeaf() instanceof MethodTree method) {
          return method;
        }
      }
      return null;
    }

    boolean isInALoop() {
      for (TreePath path = getCurrentPath(); path != null; path = path.getParentPath()) {
        Tree leaf = path.getLeaf();
        if (leaf instanceof MethodTree) {
          return false;
        }
        if (leaf instanceof WhileLoopTree || leaf instanceof DoWhileLoopTree
            || leaf instanceof ForLoopTree) {
          return true;
        }
      }
      return false;
    }

    static boolean isConstructor(MethodTree method) {
      return method != null && method.getReturnType() == null;
    }

    @Override
    public Void visitImport(ImportTree tree, Void nothing) {
      if (!tree.getQualifiedIdentifier().toString().equals("java.util.NoSuchElementException")) {
        say("4", tree, "an import of " + tree.getQualifiedIdentifier());
      }
      return null;
    }

    @Override
    public Void visitClass(ClassTree tree, Void nothing) {
      classes++;
      int fields = 0;
      for (Tree member : tree.getMembers()) {
        if (member instanceof VariableTree field) {
          boolean isStatic = field.getModifiers().getFlags().toString().contains("static");
          fields += isStatic ? 0 : 1;
          if (isStatic) {
            constant(field);
          }
        } else if (member.getKind() == Tree.Kind.BLOCK) {
          say("5", member, "an initialiser block");
        }
      }
      if (fields > 20) {
        say("11", tree, tree.getSimpleName() + " has " + fields + " fields");
      }
      return super.visitClass(tree, nothing);
    }

    void constant(VariableTree field) {
      String type = String.valueOf(field.getType());
      boolean isArray = field.getType() instanceof ArrayTypeTree;
      if (!field.getModifiers().getFlags().toString().contains("final")) {
        say("5", field, field.getName() + " is static and not final");
      }
      if (!Set.of("int", "long", "boolean", "char", "String", "int[]", "long[]", "char[]", "byte[]")
          .contains(type)) {
        say("5", field, field.getName() + " is a constant of " + type);
      }
      if (isArray && !(field.getInitializer() instanceof NewArrayTree)) {
        say("5", field, field.getName() + " is not written out");
      }
    }

    @Override
    public Void visitMethod(MethodTree tree, Void nothing) {
      Element element = element(tree);
      calls.putIfAbsent(element, new HashSet<>());
      if (element.getModifiers().contains(javax.lang.model.element.Modifier.PUBLIC)) {
        faces.add(element);
      }
      if (Set.of("equals", "hashCode", "toString").contains(tree.getName().toString())) {
        say("6", tree, tree.getName() + " of an own object");
      }
      if (tree.getParameters().size() > 7) {
        say("11", tree, tree.getName() + " has more than seven parameters");
      }
      if (tree.getBody() != null) {
        long from = unit.getLineMap().getLineNumber(positions.getStartPosition(unit, tree));
        long to = unit.getLineMap().getLineNumber(positions.getEndPosition(unit, tree));
        if (to - from + 1 > 60) {
          say("11", tree, tree.getName() + " has " + (to - from + 1) + " lines");
        }
      }
      return super.visitMethod(tree, nothing);
    }

    @Override
    public Void visitVariable(VariableTree tree, Void nothing) {
      String type = trees.getTypeMirror(getCurrentPath()).toString();
      String plain = type.replace("[]", "");
      boolean isOwn = plain.startsWith("Rexworth");
      boolean isNumber = !isOwn && !plain.startsWith("java");
      if (!isOwn && !TYPES.contains(plain) || type.endsWith("[][][]")
          || type.endsWith("[][]") && !isNumber) {
        say("3", tree, tree.getName() + " is of type " + type);
      }
      return super.visitVariable(tree, nothing);
    }

    @Override
    public Void visitMethodInvocation(MethodInvocationTree tree, Void nothing) {
      Element called = element(tree);
      TypeElement owner = (TypeElement) called.getEnclosingElement();
      String name = owner.getQualifiedName().toString();
      if (name.startsWith("Rexworth")) {
        calls.computeIfAbsent(element(method()), k -> new HashSet<>()).add(called);
      } else if (!LIBRARY.getOrDefault(name, Set.of()).contains(called.getSimpleName().toString())
          && !called.getSimpleName().contentEquals("<init>")
          && !(called.getSimpleName().contentEquals("clone") && name.equals("java.lang.Object"))) {
        say("4", tree, name + "." + called.getSimpleName());
      }
      if (name.equals("java.lang.Math")) {
        for (ExpressionTree argument : tree.getArguments()) {
          number(argument);
        }
      }
      return super.visitMethodInvocation(tree, nothing);
    }

    void number(ExpressionTree tree) {
      String type = trees.getTypeMirror(TreePath.getPath(unit, tree)).toString();
      if (!type.equals("int") && !type.equals("long") && !type.equals("char")) {
        say("3", tree, "Math of " + type);
      }
    }

    @Override
    public Void visitNewClass(NewClassTree tree, Void nothing) {
      String made = tree.getIdentifier().toString();
      boolean isThrown = getCurrentPath().getParentPath().getLeaf() instanceof ThrowTree;
      if (tree.getClassBody() != null) {
        say("2", tree, "an anonymous class");
      }
      if (!isThrown && isInALoop()) {
        say("12", tree, "a " + made + " is made in a loop");
      }
      if (!isThrown && !isConstructor(method())) {
        say("12", tree, "a " + made + " is made by a call");
      }
      Element constructor = element(tree);
      if (constructor != null && method() != null
          && constructor.getEnclosingElement().toString().startsWith("Rexworth")) {
        calls.computeIfAbsent(element(method()), k -> new HashSet<>()).add(constructor);
      }
      return super.visitNewClass(tree, nothing);
    }

    @Override
    public Void visitNewArray(NewArrayTree tree, Void nothing) {
      if (isInALoop()) {
        say("12", tree, "an array is made in a loop");
      }
      return super.visitNewArray(tree, nothing);
    }

    @Override
    public Void visitThrow(ThrowTree tree, Void nothing) {
      boolean isPlain = tree.getExpression() instanceof NewClassTree made
          && EXCEPTIONS.contains(made.getIdentifier().toString())
          && (made.getArguments().isEmpty() || made.getArguments().size() == 1
              && made.getArguments().get(0) instanceof LiteralTree);
      if (!isPlain) {
        say("6", tree, "" + tree);
      }
      if (isConstructor(method())) {
        say("6", tree, "a throw in a constructor");
      }
      return super.visitThrow(tree, nothing);
    }

    @Override
    public Void visitTry(TryTree tree, Void nothing) {
      say("6", tree, "a try, where no own method throws");
      return super.visitTry(tree, nothing);
    }

    @Override
    public Void visitSynchronized(SynchronizedTree tree, Void nothing) {
      say("6", tree, "synchronized");
      return super.visitSynchronized(tree, nothing);
    }

    @Override
    public Void visitLambdaExpression(LambdaExpressionTree tree, Void nothing) {
      say("2", tree, "a lambda");
      return super.visitLambdaExpression(tree, nothing);
    }

    @Override
    public Void visitMemberReference(MemberReferenceTree tree, Void nothing) {
      say("2", tree, "a method reference");
      return super.visitMemberReference(tree, nothing);
    }

    @Override
    public Void visitTypeCast(TypeCastTree tree, Void nothing) {
      String type = tree.getType().toString();
      if (!Set.of("int", "long", "char", "byte", "short", "float", "double").contains(type)) {
        say("6", tree, "a cast to " + type);
      }
      return super.visitTypeCast(tree, nothing);
    }

    @Override
    public Void visitBinary(BinaryTree tree, Void nothing) {
      String type = "" + trees.getTypeMirror(getCurrentPath());
      if (tree.getKind() == Tree.Kind.PLUS && type.startsWith("java.lang.String")) {
        say("10", tree, "texts joined by +");
      }
      if ((tree.getKind() == Tree.Kind.DIVIDE || tree.getKind() == Tree.Kind.REMAINDER)
          && (type.equals("int") || type.equals("long"))) {
        divisor(tree, tree.getRightOperand());
      }
      if (tree.getKind() == Tree.Kind.EQUAL_TO || tree.getKind() == Tree.Kind.NOT_EQUAL_TO) {
        String left = "" + trees.getTypeMirror(TreePath.getPath(unit, tree.getLeftOperand()));
        if (left.startsWith("java.lang")) {
          say("6", tree, "== between " + left);
        }
      }
      return super.visitBinary(tree, nothing);
    }

    /** A divisor is a constant that is not 0, or is looked at in the same method. */
    void divisor(Tree tree, ExpressionTree divisor) {
      Element element = element(divisor);
      boolean isConstant = divisor instanceof LiteralTree literal && !literal.getValue().equals(0)
          || element instanceof VariableElement variable && variable.getConstantValue() != null;
      if (!isConstant && !method().getBody().toString().contains(divisor + " > 0")) {
        say("7", tree, "a divisor that is not looked at: " + divisor);
      }
    }

    @Override
    public Void visitCompoundAssignment(CompoundAssignmentTree tree, Void nothing) {
      if (tree.getKind() == Tree.Kind.DIVIDE_ASSIGNMENT
          || tree.getKind() == Tree.Kind.REMAINDER_ASSIGNMENT) {
        divisor(tree, tree.getExpression());
      }
      written(tree, tree.getVariable());
      return super.visitCompoundAssignment(tree, nothing);
    }

    @Override
    public Void visitAssignment(AssignmentTree tree, Void nothing) {
      written(tree, tree.getVariable());
      return super.visitAssignment(tree, nothing);
    }

    void written(Tree tree, ExpressionTree to) {
      if (to instanceof com.sun.source.tree.ArrayAccessTree access) {
        Element element = element(access.getExpression());
        if (element != null && element.getKind() == ElementKind.FIELD
            && element.getModifiers().contains(javax.lang.model.element.Modifier.STATIC)) {
          say("5", tree, "a constant is changed: " + element);
        }
      }
    }

    @Override
    public Void visitForLoop(ForLoopTree tree, Void nothing) {
      bound(tree, tree.getCondition());
      return super.visitForLoop(tree, nothing);
    }

    @Override
    public Void visitWhileLoop(WhileLoopTree tree, Void nothing) {
      bound(tree, tree.getCondition());
      return super.visitWhileLoop(tree, nothing);
    }

    @Override
    public Void visitDoWhileLoop(DoWhileLoopTree tree, Void nothing) {
      bound(tree, tree.getCondition());
      return super.visitDoWhileLoop(tree, nothing);
    }

    /** A loop has a counter against a bound, which its own lines change. */
    void bound(Tree loop, ExpressionTree condition) {
      String text = String.valueOf(condition);
      boolean isCompared = text.matches("(?s).*[\\w)\\]] (<|>|<=|>=) .*");
      boolean[] isCounted = new boolean[1];
      new TreePathScanner<Void, Void>() {
        @Override
        public Void visitUnary(UnaryTree tree, Void nothing) {
          isCounted[0] |= text.contains(tree.getExpression().toString());
          return super.visitUnary(tree, nothing);
        }

        @Override
        public Void visitAssignment(AssignmentTree tree, Void nothing) {
          isCounted[0] |= text.contains(tree.getVariable().toString());
          return super.visitAssignment(tree, nothing);
        }

        @Override
        public Void visitCompoundAssignment(CompoundAssignmentTree tree, Void nothing) {
          isCounted[0] |= text.contains(tree.getVariable().toString());
          return super.visitCompoundAssignment(tree, nothing);
        }
      }.scan(getCurrentPath(), null);
      if (!isCompared || !isCounted[0]) {
        say("9", loop, "a loop whose end can't be seen: " + text);
      }
    }

    @Override
    public Void visitSwitch(SwitchTree tree, Void nothing) {
      String type = "" + trees.getTypeMirror(TreePath.getPath(unit, tree.getExpression()));
      if (type.startsWith("java.lang")) {
        say("10", tree, "a switch on " + type);
      }
      return super.visitSwitch(tree, nothing);
    }

    @Override
    public Void visitAssert(AssertTree tree, Void nothing) {
      say("6", tree, "assert");
      return super.visitAssert(tree, nothing);
    }

    @Override
    public Void visitLiteral(LiteralTree tree, Void nothing) {
      if (tree.getValue() instanceof String text) {
        for (char sign : text.toCharArray()) {
          if (sign < 1 || sign > 127) {
            say("4", tree, "a sign " + (int) sign);
          }
        }
      }
      return super.visitLiteral(tree, nothing);
    }

    /** How deep calls go from a method on; a method that is met in itself breaks rule 8. */
    int depth(Element from, List<Element> way) {
      if (way.contains(from)) {
        broken("8", "recursion: " + way);
        return 0;
      }
      way.add(from);
      int most = 0;
      for (Element called : calls.getOrDefault(from, Set.of())) {
        most = Math.max(most, depth(called, way));
      }
      way.remove(way.size() - 1);
      return most + 1;
    }
  }

  private static void text() throws Exception {
    JavaCompiler compiler = ToolProvider.getSystemJavaCompiler();
    StandardJavaFileManager files = compiler.getStandardFileManager(null, null, null);
    JavacTask task = (JavacTask) compiler.getTask(null, files, null, List.of("-proc:none"), null,
        files.getJavaFileObjects(SOURCE));
    CompilationUnitTree unit = task.parse().iterator().next();
    task.analyze();
    Reader reader = new Reader(Trees.instance(task), unit);
    reader.scan(unit, null);
    if (unit.getPackageName() != null) {
      broken("1", "a package");
    }
    if (reader.classes > 12) {
      broken("11", reader.classes + " classes");
    }
    int most = 0;
    for (Element face : reader.faces) {
      // the method of the face is not called by another one of the class
      int depth = reader.depth(face, new ArrayList<>());
      most = Math.max(most, depth);
      if (depth > 8) {
        broken("11", "calls go " + depth + " deep from " + ((ExecutableElement) face).getSimpleName());
      }
    }
    System.out.println(reader.classes + " classes, calls go " + most + " deep");
  }

  public static void main(String[] args) throws Exception {
    face();
    text();
    System.out.println(wrong == 0 ? "the rules are kept" : wrong + " are broken");
    if (wrong != 0) {
      System.exit(1);
    }
  }
}
