import com.sun.source.tree.AssertTree;
import com.sun.source.tree.BinaryTree;
import com.sun.source.tree.CatchTree;
import com.sun.source.tree.ClassTree;
import com.sun.source.tree.CompilationUnitTree;
import com.sun.source.tree.CompoundAssignmentTree;
import com.sun.source.tree.DoWhileLoopTree;
import com.sun.source.tree.ExpressionTree;
import com.sun.source.tree.ForLoopTree;
import com.sun.source.tree.ImportTree;
import com.sun.source.tree.LambdaExpressionTree;
import com.sun.source.tree.LiteralTree;
import com.sun.source.tree.MemberReferenceTree;
import com.sun.source.tree.MemberSelectTree;
import com.sun.source.tree.MethodInvocationTree;
import com.sun.source.tree.MethodTree;
import com.sun.source.tree.NewClassTree;
import com.sun.source.tree.ParenthesizedTree;
import com.sun.source.tree.SynchronizedTree;
import com.sun.source.tree.ThrowTree;
import com.sun.source.tree.Tree;
import com.sun.source.tree.TryTree;
import com.sun.source.tree.VariableTree;
import com.sun.source.tree.WhileLoopTree;
import com.sun.source.util.JavacTask;
import com.sun.source.util.TreePath;
import com.sun.source.util.TreePathScanner;
import com.sun.source.util.Trees;
import java.nio.file.Files;
import java.nio.file.Path;
import java.util.HashMap;
import java.util.List;
import java.util.Map;
import java.util.Set;
import java.util.TreeSet;
import javax.lang.model.element.Element;
import javax.lang.model.element.ElementKind;
import javax.lang.model.element.ExecutableElement;
import javax.lang.model.element.Modifier;
import javax.lang.model.type.ArrayType;
import javax.lang.model.type.DeclaredType;
import javax.lang.model.type.TypeKind;
import javax.lang.model.type.TypeMirror;
import javax.tools.JavaCompiler;
import javax.tools.StandardJavaFileManager;
import javax.tools.ToolProvider;

/**
 * What can be read from the source alone of the rules of ../shared/LANGUAGE.md; its path is the
 * argument. Whether indices are looked at and loops end (rules 7 to 9) is left to readers, but for
 * loops without a condition.
 */
public final class LanguageTest {

  private static final int MOST_PARAMETERS = 7;
  private static final int MOST_LINES = 60;
  private static final int MOST_CLASSES = 12;
  private static final int MOST_FIELDS = 20;
  private static final int DEEPEST = 8;

  private static final Set<String> EXCEPTIONS =
      Set.of("IllegalStateException", "IllegalArgumentException", "IndexOutOfBoundsException",
          "ArithmeticException", "UnsupportedOperationException", "NoSuchElementException",
          "RuntimeException");
  private static final Set<String> LIBRARY_TYPES =
      Set.of("String", "StringBuilder", "Integer", "List", "ArrayList", "Iterator", "Iterable",
          "Comparable");
  private static final Set<String> MADE = Set.of("StringBuilder", "ArrayList", "String");
  private static final Set<String> LIBRARY =
      Set.of("String.length()", "String.charAt(int)", "String.isEmpty()",
          "String.equals(java.lang.Object)", "String.indexOf(int)", "String.substring(int)",
          "String.substring(int,int)", "String.toCharArray()", "StringBuilder.append(char)",
          "StringBuilder.append(java.lang.String)", "StringBuilder.append(int)",
          "StringBuilder.charAt(int)", "StringBuilder.setCharAt(int,char)",
          "StringBuilder.setLength(int)", "StringBuilder.deleteCharAt(int)",
          "StringBuilder.reverse()", "StringBuilder.length()", "StringBuilder.toString()");
  private static final Set<String> OF_LISTS =
      Set.of("add", "get", "set", "remove", "size", "isEmpty", "clear", "of");
  private static final Set<String> OF_ARRAYS = Set.of("copyOf", "copyOfRange", "fill");

  private static int wrong = 0;

  public static void main(String[] args) throws Exception {
    Path source = Path.of(args[0]);
    demandAscii(Files.readString(source));
    JavaCompiler compiler = ToolProvider.getSystemJavaCompiler();
    try (StandardJavaFileManager files = compiler.getStandardFileManager(null, null, null)) {
      JavacTask task =
          (JavacTask)
              compiler.getTask(
                  null, files, null, List.of("--release", "17"), null, files.getJavaFileObjects(source));
      CompilationUnitTree unit = task.parse().iterator().next();
      task.analyze();
      Reader reader = new Reader(Trees.instance(task), unit);
      reader.scan(unit, null);
      reader.demandOfAll();
    }
    System.out.println(wrong == 0 ? "the language is as due" : wrong + " faults of the language");
    if (wrong != 0) {
      System.exit(1);
    }
  }

  private static void demandAscii(String source) {
    for (int i = 0; i < source.length(); i++) {
      char sign = source.charAt(i);
      if (sign > 126 || sign < 32 && sign != '\n') {
        wrong++;
        System.out.println("rule 4: sign " + (int) sign + " at " + i);
      }
    }
  }

  private static final class Reader extends TreePathScanner<Void, Void> {
    private final Trees trees;
    private final CompilationUnitTree unit;
    /** By names alone, so that a method and those that override it count as one. */
    private final Map<String, Set<String>> calls = new HashMap<>();
    private int classes = 0;

    Reader(Trees trees, CompilationUnitTree unit) {
      this.trees = trees;
      this.unit = unit;
    }

    void demandOfAll() {
      demand(calls.size() > 0, null, "the source was not read");
      demand(classes <= MOST_CLASSES, null, "rule 11: classes: " + classes);
      for (String name : calls.keySet()) {
        int deep = depth(name, new TreeSet<>());
        demand(deep <= DEEPEST, null, "rule 11: calls go " + deep + " deep from " + name);
      }
    }

    private int depth(String name, Set<String> open) {
      int deepest = 0;
      // A method that calls itself is a recursion, which has rules of its own.
      if (open.add(name)) {
        for (String called : calls.getOrDefault(name, Set.of())) {
          deepest = Math.max(deepest, depth(called, open));
        }
        open.remove(name);
      }
      return deepest + 1;
    }

    // ---- what is declared

    @Override
    public Void visitCompilationUnit(CompilationUnitTree tree, Void none) {
      demand(tree.getPackageName() == null, tree, "rule 1: a package line");
      demand(tree.getTypeDecls().size() == 1, tree, "rule 1: one class in the file");
      return super.visitCompilationUnit(tree, none);
    }

    @Override
    public Void visitImport(ImportTree tree, Void none) {
      Set<String> allowed =
          Set.of("java.util.ArrayList", "java.util.List", "java.util.Arrays", "java.util.Iterator",
              "java.util.NoSuchElementException");
      String name = tree.getQualifiedIdentifier().toString();
      demand(!tree.isStatic() && allowed.contains(name), tree, "rule 4: import " + name);
      return null;
    }

    @Override
    public Void visitClass(ClassTree tree, Void none) {
      classes++;
      int fields = 0;
      for (Tree member : tree.getMembers()) {
        boolean isField = member instanceof VariableTree;
        boolean isKept = isField && isStatic((VariableTree) member);
        demand(member.getKind() != Tree.Kind.BLOCK, member, "rule 5: an initialiser block");
        demand(!isKept || isFinal((VariableTree) member), member, "rule 5: static, but not final");
        if (isField && !isKept) {
          fields++;
          demand(tree.getKind() != Tree.Kind.ENUM || isOfEnum((VariableTree) member), member,
              "rule 2: a field of an enum");
        }
      }
      demand(fields <= MOST_FIELDS, tree, "rule 11: fields: " + fields);
      return super.visitClass(tree, none);
    }

    private static boolean isStatic(VariableTree tree) {
      return tree.getModifiers().getFlags().contains(Modifier.STATIC);
    }

    private static boolean isFinal(VariableTree tree) {
      return tree.getModifiers().getFlags().contains(Modifier.FINAL);
    }

    private static boolean isOfEnum(VariableTree tree) {
      return Set.of("int", "long", "boolean", "String").contains(tree.getType().toString());
    }

    @Override
    public Void visitMethod(MethodTree tree, Void none) {
      int parameters = tree.getParameters().size();
      long lines = lineOfEnd(tree) - lineOf(tree) + 1;
      String name = tree.getName().toString();
      demand(parameters <= MOST_PARAMETERS, tree, "rule 11: parameters of " + name);
      demand(lines <= MOST_LINES, tree, "rule 11: lines of " + name + ": " + lines);
      demand(!Set.of("equals", "hashCode", "toString").contains(name), tree, "rule 6: " + name);
      demand(
          !tree.getModifiers().getFlags().contains(Modifier.SYNCHRONIZED), tree, "rule 6: " + name);
      if (!name.equals("<init>")) {
        calls.computeIfAbsent(name, key -> new TreeSet<>());
      }
      return super.visitMethod(tree, none);
    }

    @Override
    public Void visitVariable(VariableTree tree, Void none) {
      TypeMirror type = trees.getTypeMirror(getCurrentPath());
      demand(isAllowed(type), tree, "rule 3: the type " + type);
      return super.visitVariable(tree, none);
    }

    private boolean isAllowed(TypeMirror type) {
      if (type.getKind() == TypeKind.ARRAY) {
        TypeMirror part = ((ArrayType) type).getComponentType();
        boolean isOfRows = part.getKind() == TypeKind.ARRAY;
        return part.getKind().isPrimitive()
            || isOwn(part)
            || isOfRows && ((ArrayType) part).getComponentType().getKind().isPrimitive();
      }
      return type.getKind().isPrimitive()
          || type.getKind() == TypeKind.TYPEVAR
          || isOwn(type)
          || LIBRARY_TYPES.contains(simple(type))
          || EXCEPTIONS.contains(simple(type));
    }

    // ---- what is used

    @Override
    public Void visitMethodInvocation(MethodInvocationTree tree, Void none) {
      ExpressionTree select = tree.getMethodSelect();
      Element element = trees.getElement(new TreePath(getCurrentPath(), select));
      ExecutableElement method = (ExecutableElement) element;
      String name = method.getSimpleName().toString();
      if (isOwn(element.getEnclosingElement().asType())) {
        addCall(name);
      } else if (select instanceof MemberSelectTree) {
        TreePath path = new TreePath(getCurrentPath(), select);
        ExpressionTree of = ((MemberSelectTree) select).getExpression();
        TypeMirror type = trees.getTypeMirror(new TreePath(path, of));
        demand(isListed(type, method), tree, "rule 4: " + type + "." + method);
      } else {
        // What javac writes itself into each constructor.
        demand(select.toString().equals("super"), tree, "rule 4: " + tree);
      }
      return super.visitMethodInvocation(tree, none);
    }

    private void addCall(String name) {
      MethodTree in = methodAround();
      if (in != null && !name.equals("<init>")) {
        calls.computeIfAbsent(in.getName().toString(), key -> new TreeSet<>()).add(name);
      }
    }

    private static boolean isListed(TypeMirror type, ExecutableElement method) {
      String name = method.getSimpleName().toString();
      if (type.getKind() == TypeKind.ARRAY) {
        return name.equals("clone");
      }
      switch (simple(type)) {
        case "Math": case "Integer": case "Long":
          return isOfWholeNumbers(method) && !name.endsWith("Exact");
        case "List": case "ArrayList":
          return OF_LISTS.contains(name) && method.getParameters().size() <= 6;
        case "Arrays":
          return OF_ARRAYS.contains(name);
        case "System":
          return name.equals("arraycopy");
        default:
          return LIBRARY.contains(simple(type) + "." + method);
      }
    }

    private static boolean isOfWholeNumbers(ExecutableElement method) {
      boolean whole = method.getModifiers().contains(Modifier.STATIC);
      for (Element parameter : method.getParameters()) {
        TypeKind kind = parameter.asType().getKind();
        whole = whole && (kind == TypeKind.INT || kind == TypeKind.LONG);
      }
      return whole;
    }

    @Override
    public Void visitMemberSelect(MemberSelectTree tree, Void none) {
      Element element = trees.getElement(getCurrentPath());
      if (element != null && element.getKind() == ElementKind.FIELD) {
        TreePath of = new TreePath(getCurrentPath(), tree.getExpression());
        TypeMirror type = trees.getTypeMirror(of);
        boolean isLength = type.getKind() == TypeKind.ARRAY;
        demand(isLength || isOwn(type), tree, "rule 4: the library's field " + tree);
      }
      return super.visitMemberSelect(tree, none);
    }

    @Override
    public Void visitNewClass(NewClassTree tree, Void none) {
      TypeMirror type = trees.getTypeMirror(new TreePath(getCurrentPath(), tree.getIdentifier()));
      Tree parent = getCurrentPath().getParentPath().getLeaf();
      boolean isThrown = parent instanceof ThrowTree && EXCEPTIONS.contains(simple(type));
      demand(isThrown || isOwn(type) || MADE.contains(simple(type)), tree, "rule 4: new " + type);
      return super.visitNewClass(tree, none);
    }

    @Override
    public Void visitLiteral(LiteralTree tree, Void none) {
      if (tree.getValue() instanceof String) {
        for (char sign : ((String) tree.getValue()).toCharArray()) {
          demand(sign >= 1 && sign <= 127, tree, "rule 4: sign " + (int) sign);
        }
      }
      return super.visitLiteral(tree, none);
    }

    @Override
    public Void visitLambdaExpression(LambdaExpressionTree tree, Void none) {
      demand(false, tree, "rule 2: a lambda");
      return null;
    }

    @Override
    public Void visitMemberReference(MemberReferenceTree tree, Void none) {
      demand(false, tree, "rule 2: a method reference");
      return null;
    }

    @Override
    public Void visitBinary(BinaryTree tree, Void none) {
      TypeMirror type = trees.getTypeMirror(getCurrentPath());
      demand(!simple(type).equals("String"), tree, "rule 10: texts are joined by +");
      if (tree.getKind() == Tree.Kind.EQUAL_TO || tree.getKind() == Tree.Kind.NOT_EQUAL_TO) {
        boolean isOneBoxed = isBoxed(tree.getLeftOperand());
        demand(!isOneBoxed || !isBoxed(tree.getRightOperand()), tree, "rule 6: == of " + tree);
      }
      return super.visitBinary(tree, none);
    }

    private boolean isBoxed(ExpressionTree tree) {
      TypeMirror type = trees.getTypeMirror(new TreePath(getCurrentPath(), tree));
      return type != null && Set.of("String", "Integer").contains(simple(type));
    }

    @Override
    public Void visitCompoundAssignment(CompoundAssignmentTree tree, Void none) {
      TypeMirror type = trees.getTypeMirror(getCurrentPath());
      demand(!simple(type).equals("String"), tree, "rule 10: texts are joined by +=");
      return super.visitCompoundAssignment(tree, none);
    }

    // ---- exceptions

    @Override
    public Void visitThrow(ThrowTree tree, Void none) {
      MethodTree in = methodAround();
      boolean isMade = in != null && !in.getName().contentEquals("<init>");
      demand(isMade, tree, "rule 6: a throw in a constructor");
      boolean isNew = tree.getExpression() instanceof NewClassTree;
      demand(isNew, tree, "rule 6: what is thrown is not new");
      if (isNew) {
        for (ExpressionTree argument : ((NewClassTree) tree.getExpression()).getArguments()) {
          boolean isWritten = argument.getKind() == Tree.Kind.STRING_LITERAL;
          demand(isWritten, tree, "rule 6: the text of an exception is not a written one");
        }
      }
      return super.visitThrow(tree, none);
    }

    @Override
    public Void visitTry(TryTree tree, Void none) {
      demand(tree.getFinallyBlock() == null, tree, "rule 6: finally");
      demand(tree.getResources().isEmpty(), tree, "rule 6: try with resources");
      for (CatchTree caught : tree.getCatches()) {
        String name = caught.getParameter().getType().toString();
        demand(EXCEPTIONS.contains(name), caught, "rule 6: catch of " + name);
      }
      return super.visitTry(tree, none);
    }

    @Override
    public Void visitSynchronized(SynchronizedTree tree, Void none) {
      demand(false, tree, "rule 6: synchronized");
      return super.visitSynchronized(tree, none);
    }

    @Override
    public Void visitAssert(AssertTree tree, Void none) {
      demand(false, tree, "rule 6: assert");
      return super.visitAssert(tree, none);
    }

    // ---- loops

    @Override
    public Void visitForLoop(ForLoopTree tree, Void none) {
      demandEnd(tree, tree.getCondition());
      return super.visitForLoop(tree, none);
    }

    @Override
    public Void visitWhileLoop(WhileLoopTree tree, Void none) {
      demandEnd(tree, tree.getCondition());
      return super.visitWhileLoop(tree, none);
    }

    @Override
    public Void visitDoWhileLoop(DoWhileLoopTree tree, Void none) {
      demandEnd(tree, tree.getCondition());
      return super.visitDoWhileLoop(tree, none);
    }

    private void demandEnd(Tree loop, ExpressionTree condition) {
      ExpressionTree bare = condition;
      while (bare instanceof ParenthesizedTree) {
        bare = ((ParenthesizedTree) bare).getExpression();
      }
      demand(bare != null && !(bare instanceof LiteralTree), loop, "rule 9: a loop without an end");
    }

    // ---- helpers

    private MethodTree methodAround() {
      for (Tree tree : getCurrentPath()) {
        if (tree instanceof MethodTree) {
          return (MethodTree) tree;
        }
      }
      return null;
    }

    private static boolean isOwn(TypeMirror type) {
      if (type.getKind() != TypeKind.DECLARED) {
        return false;
      }
      Element outermost = ((DeclaredType) type).asElement();
      while (outermost.getEnclosingElement() != null
          && outermost.getEnclosingElement().getKind() != ElementKind.PACKAGE) {
        outermost = outermost.getEnclosingElement();
      }
      return outermost.getSimpleName().contentEquals("Rowsorter");
    }

    private static String simple(TypeMirror type) {
      return type.getKind() == TypeKind.DECLARED
          ? ((DeclaredType) type).asElement().getSimpleName().toString()
          : type.toString();
    }

    private long lineOf(Tree tree) {
      long at = trees.getSourcePositions().getStartPosition(unit, tree);
      return at < 0 ? 0 : unit.getLineMap().getLineNumber(at);
    }

    private long lineOfEnd(Tree tree) {
      long at = trees.getSourcePositions().getEndPosition(unit, tree);
      return at < 0 ? 0 : unit.getLineMap().getLineNumber(at);
    }

    private void demand(boolean holds, Tree where, String what) {
      if (!holds) {
        wrong++;
        System.out.println((where == null ? "" : "line " + lineOf(where) + ", ") + what);
      }
    }
  }
}
