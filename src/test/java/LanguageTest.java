import com.sun.source.tree.AnnotationTree;
import com.sun.source.tree.ArrayAccessTree;
import com.sun.source.tree.AssertTree;
import com.sun.source.tree.AssignmentTree;
import com.sun.source.tree.BinaryTree;
import com.sun.source.tree.BlockTree;
import com.sun.source.tree.ClassTree;
import com.sun.source.tree.CompilationUnitTree;
import com.sun.source.tree.CompoundAssignmentTree;
import com.sun.source.tree.DoWhileLoopTree;
import com.sun.source.tree.ExpressionTree;
import com.sun.source.tree.ForLoopTree;
import com.sun.source.tree.IdentifierTree;
import com.sun.source.tree.InstanceOfTree;
import com.sun.source.tree.LambdaExpressionTree;
import com.sun.source.tree.LiteralTree;
import com.sun.source.tree.MemberReferenceTree;
import com.sun.source.tree.MemberSelectTree;
import com.sun.source.tree.MethodInvocationTree;
import com.sun.source.tree.MethodTree;
import com.sun.source.tree.NewArrayTree;
import com.sun.source.tree.NewClassTree;
import com.sun.source.tree.ParenthesizedTree;
import com.sun.source.tree.SynchronizedTree;
import com.sun.source.tree.ThrowTree;
import com.sun.source.tree.Tree;
import com.sun.source.tree.TryTree;
import com.sun.source.tree.TypeCastTree;
import com.sun.source.tree.UnaryTree;
import com.sun.source.tree.VariableTree;
import com.sun.source.tree.WhileLoopTree;
import com.sun.source.util.JavacTask;
import com.sun.source.util.SourcePositions;
import com.sun.source.util.TreePath;
import com.sun.source.util.TreePathScanner;
import com.sun.source.util.Trees;
import java.io.IOException;
import java.nio.file.Files;
import java.nio.file.Path;
import java.util.List;
import java.util.Map;
import java.util.Set;
import java.util.TreeMap;
import java.util.TreeSet;
import java.util.regex.Pattern;
import javax.lang.model.element.Element;
import javax.lang.model.element.Modifier;
import javax.lang.model.element.TypeElement;
import javax.tools.JavaCompiler;
import javax.tools.JavaFileObject;
import javax.tools.StandardJavaFileManager;
import javax.tools.ToolProvider;

/**
 * LANGUAGE.md, rule by rule, as far as the class's tree of statements shows it. Where a rule allows what the class does
 * not use (throw, while, lists, doubles), the test is stricter than the rule: who uses it looks at the rule first.
 */
public final class LanguageTest extends TreePathScanner<Void, Void> {
    private static final Path FILE = Path.of("src/main/java/WishLamp.java");
    private static final Set<String> LIBRARY = Set.of("java.lang.Integer.bitCount", "java.lang.Long.bitCount", "java.lang.System.arraycopy");
    private static final Set<String> TYPES = Set.of("int", "long", "boolean", "int[]", "long[]", "void");
    private static final int MOST_PARAMETERS = 7, MOST_LINES = 60, MOST_DEPTH = 8, MOST_CLASSES = 12, MOST_FIELDS = 20;
    /** The one method that makes an object: the first use of each image. */
    private static final String MAKER = "WishLamp.image";

    private int wrong = 0;
    private final CompilationUnitTree unit;
    private final Trees trees;
    private final SourcePositions places;
    private final Set<String> own = new TreeSet<>();
    private final Map<String, Set<String>> calls = new TreeMap<>();
    private int looked = 0;

    private LanguageTest(CompilationUnitTree unit, Trees trees) {
        this.unit = unit;
        this.trees = trees;
        this.places = trees.getSourcePositions();
    }

    private void check(boolean good, int rule, String what, Tree where) {
        looked++;
        if (good) return;
        wrong++;
        System.out.println("rule " + rule + ", line " + lineOf(where) + ": " + what);
    }

    private long lineOf(Tree tree) {
        return tree == null ? 0 : unit.getLineMap().getLineNumber(places.getStartPosition(unit, tree));
    }

    private Element elementOf(Tree tree) {
        return trees.getElement(TreePath.getPath(unit, tree));
    }

    private static String ownerName(Element element) {
        Element owner = element;
        while (owner != null && !(owner instanceof TypeElement)) owner = owner.getEnclosingElement();
        return owner == null ? "" : owner.toString();
    }

    /** Where the scanner is: Class.method, Class.<init>, or the class alone for what its fields begin with. */
    private String placeOf() {
        String method = "";
        for (TreePath p = getCurrentPath(); p != null; p = p.getParentPath()) {
            if (p.getLeaf() instanceof MethodTree) method = "." + ((MethodTree) p.getLeaf()).getName();
            if (p.getLeaf() instanceof ClassTree) return ownerName(trees.getElement(p)) + method;
        }
        return "";
    }

    private boolean isStaticField(Tree tree) {
        Element e = tree instanceof IdentifierTree || tree instanceof MemberSelectTree ? elementOf(tree) : null;
        return e != null && e.getKind().isField() && e.getModifiers().contains(Modifier.STATIC);
    }

    // ---- rules 1, 2, 11: classes

    @Override
    public Void visitCompilationUnit(CompilationUnitTree tree, Void none) {
        check(tree.getPackage() == null, 1, "a package line", tree);
        check(tree.getImports().isEmpty(), 4, "imports", tree);
        check(tree.getTypeDecls().size() == 1, 1, "more than one class in the file", tree);
        for (Tree type : tree.getTypeDecls()) nameClasses(type);
        return super.visitCompilationUnit(tree, none);
    }

    /** Ahead of all else, as fields of classes further down stand further up. */
    private void nameClasses(Tree tree) {
        if (!(tree instanceof ClassTree)) return;
        own.add(ownerName(elementOf(tree)));
        for (Tree member : ((ClassTree) tree).getMembers()) nameClasses(member);
    }

    @Override
    public Void visitClass(ClassTree tree, Void none) {
        boolean outer = getCurrentPath().getParentPath().getLeaf() == unit;
        Set<Modifier> flags = tree.getModifiers().getFlags();
        check(tree.getKind() == Tree.Kind.CLASS, 2, "no class: not in use so far", tree);
        if (outer) {
            check(flags.equals(Set.of(Modifier.PUBLIC, Modifier.FINAL)), 1, "the class is " + flags, tree);
        } else {
            check(getCurrentPath().getParentPath().getLeaf() instanceof ClassTree, 2, "a local class", tree);
            check(flags.contains(Modifier.STATIC), 1, "a class inside that is not static", tree);
            check(!flags.contains(Modifier.PUBLIC) && !flags.contains(Modifier.PROTECTED), 1, "an open class", tree);
        }
        int fields = 0;
        for (Tree member : tree.getMembers()) {
            check(!(member instanceof BlockTree), 5, "an initialiser block", member);
            if (member instanceof VariableTree && !((VariableTree) member).getModifiers().getFlags().contains(Modifier.STATIC)) fields++;
        }
        check(fields <= MOST_FIELDS, 11, fields + " fields", tree);
        return super.visitClass(tree, none);
    }

    @Override
    public Void visitMethod(MethodTree tree, Void none) {
        long lines = unit.getLineMap().getLineNumber(places.getEndPosition(unit, tree)) - lineOf(tree) + 1;
        check(lines <= MOST_LINES, 11, lines + " lines", tree);
        check(tree.getParameters().size() <= MOST_PARAMETERS, 11, tree.getParameters().size() + " parameters", tree);
        check(tree.getThrows().isEmpty(), 6, "throws", tree);
        if (tree.getReturnType() != null) type(tree.getReturnType().toString(), tree);
        calls.computeIfAbsent(placeOf(), k -> new TreeSet<>());
        return super.visitMethod(tree, none);
    }

    // ---- rules 3, 5: types, static fields

    private void type(String type, Tree where) {
        String plain = type.replace("WishLamp.", "");
        boolean isOwn = own.contains("WishLamp." + plain.replace("[]", "")) && !plain.contains("[][]");
        check(TYPES.contains(type) || isOwn, 3, "the type " + type + ": not in use so far", where);
    }

    @Override
    public Void visitVariable(VariableTree tree, Void none) {
        type(tree.getType().toString(), tree);
        Set<Modifier> flags = tree.getModifiers().getFlags();
        boolean field = getCurrentPath().getParentPath().getLeaf() instanceof ClassTree;
        if (field && flags.contains(Modifier.STATIC)) staticField(tree, flags);
        return super.visitVariable(tree, none);
    }

    private void staticField(VariableTree tree, Set<Modifier> flags) {
        check(flags.contains(Modifier.FINAL), 5, "static and not final: " + tree.getName(), tree);
        Tree value = tree.getInitializer();
        check(value != null, 5, "without a value: " + tree.getName(), tree);
        if (value instanceof NewArrayTree) {
            List<? extends ExpressionTree> all = ((NewArrayTree) value).getInitializers();
            check(all != null, 5, "an array that is not written out", tree);
            if (all != null) for (ExpressionTree e : all) check(e instanceof LiteralTree, 5, "no number: " + e, e);
        } else {
            check(value != null && isConstant(value), 5, "no constant: " + tree.getName(), tree);
        }
    }

    /** Written out, or made of constants by signs. */
    private boolean isConstant(Tree tree) {
        if (tree instanceof LiteralTree) return true;
        if (tree instanceof ParenthesizedTree) return isConstant(((ParenthesizedTree) tree).getExpression());
        if (tree instanceof UnaryTree) return isConstant(((UnaryTree) tree).getExpression());
        if (tree instanceof BinaryTree) return isConstant(((BinaryTree) tree).getLeftOperand()) && isConstant(((BinaryTree) tree).getRightOperand());
        return isStaticField(tree) && elementOf(tree).asType().getKind().isPrimitive();
    }

    /** An array that is a constant is read by its index or its length, and never handed on or written to. */
    @Override
    public Void visitIdentifier(IdentifierTree tree, Void none) {
        if (isStaticField(tree) && !elementOf(tree).asType().getKind().isPrimitive()) {
            Tree parent = getCurrentPath().getParentPath().getLeaf();
            Tree above = getCurrentPath().getParentPath().getParentPath().getLeaf();
            boolean read = parent instanceof ArrayAccessTree && ((ArrayAccessTree) parent).getExpression() == tree
                || parent instanceof MemberSelectTree && ((MemberSelectTree) parent).getIdentifier().contentEquals("length");
            boolean written = above instanceof AssignmentTree && ((AssignmentTree) above).getVariable() == parent
                || above instanceof CompoundAssignmentTree && ((CompoundAssignmentTree) above).getVariable() == parent
                || above instanceof UnaryTree && above.toString().matches(".*(\\+\\+|--).*");
            check(read && !written, 5, "a constant array that is handed on or written to: " + tree, tree);
        }
        return super.visitIdentifier(tree, none);
    }

    // ---- rules 4, 8, 13: what is called

    @Override
    public Void visitMethodInvocation(MethodInvocationTree tree, Void none) {
        Element method = elementOf(tree.getMethodSelect());
        String name = ownerName(method) + "." + method.getSimpleName();
        if (ownerName(method).startsWith("WishLamp")) called(name);
        // Each constructor begins with that of Object, which the compiler writes.
        else if (!name.equals("java.lang.Object.<init>")) check(LIBRARY.contains(name), 4, name + ": not in use so far", tree);
        return super.visitMethodInvocation(tree, none);
    }

    private void called(String name) {
        calls.computeIfAbsent(placeOf(), k -> new TreeSet<>()).add(name);
    }

    /** How deep calls go from here; a method that comes again in the row is a recursion. */
    private int depth(String method, Set<String> open) {
        if (open.contains(method)) {
            check(false, 8, "a recursion: " + open + " and " + method, null);
            return 0;
        }
        open.add(method);
        int deepest = 0;
        for (String next : calls.getOrDefault(method, Set.of())) deepest = Math.max(deepest, depth(next, open));
        open.remove(method);
        return deepest + 1;
    }

    // ---- rules 7, 12: what is made, divisors, casts

    @Override
    public Void visitNewClass(NewClassTree tree, Void none) {
        String name = ownerName(elementOf(tree.getIdentifier()));
        check(tree.getClassBody() == null, 2, "an anonymous class", tree);
        check(own.contains(name), 4, "new " + name + ": not in use so far", tree);
        String place = placeOf();
        check(own.contains(place) || place.endsWith(".<init>") || place.equals(MAKER), 12, "new " + name + " in " + place, tree);
        called(name + ".<init>");
        return super.visitNewClass(tree, none);
    }

    @Override
    public Void visitNewArray(NewArrayTree tree, Void none) {
        check(own.contains(placeOf()), 12, "an array is made in " + placeOf(), tree);
        for (ExpressionTree length : tree.getDimensions()) check(isConstant(length), 7, "a length that is no constant", tree);
        return super.visitNewArray(tree, none);
    }

    private void divisor(Tree divisor) {
        if (isConstant(divisor)) {
            check(!divisor.toString().equals("0"), 7, "divides by 0", divisor);
            return;
        }
        MethodTree method = null;
        for (TreePath p = getCurrentPath(); p != null && method == null; p = p.getParentPath()) {
            if (p.getLeaf() instanceof MethodTree) method = (MethodTree) p.getLeaf();
        }
        String name = Pattern.quote(divisor.toString());
        // Either it is tested by its name, or it is given a value that was.
        boolean tested = method != null && Pattern.compile("\\b" + name + " (!=|==|>) 0|int " + name + " = .* > 0 \\? .* : 1;").matcher(method.toString()).find();
        check(divisor instanceof IdentifierTree && tested, 7, "a divisor that is not looked at: " + divisor, divisor);
    }

    @Override
    public Void visitBinary(BinaryTree tree, Void none) {
        boolean divides = tree.getKind() == Tree.Kind.DIVIDE || tree.getKind() == Tree.Kind.REMAINDER;
        if (divides) divisor(tree.getRightOperand());
        return super.visitBinary(tree, none);
    }

    @Override
    public Void visitCompoundAssignment(CompoundAssignmentTree tree, Void none) {
        boolean divides = tree.getKind() == Tree.Kind.DIVIDE_ASSIGNMENT || tree.getKind() == Tree.Kind.REMAINDER_ASSIGNMENT;
        if (divides) divisor(tree.getExpression());
        return super.visitCompoundAssignment(tree, none);
    }

    @Override
    public Void visitTypeCast(TypeCastTree tree, Void none) {
        check(TYPES.contains(tree.getType().toString()), 6, "a cast: not in use so far", tree);
        return super.visitTypeCast(tree, none);
    }

    // ---- rule 9: loops

    @Override
    public Void visitForLoop(ForLoopTree tree, Void none) {
        String condition = tree.getCondition() == null ? "" : tree.getCondition().toString();
        check(condition.matches("\\w+ (<|<=|>|>=) .*"), 9, "no counter against a bound: " + condition, tree);
        String counter = condition.replaceAll(" .*", "");
        boolean steps = tree.getUpdate().size() == 1 && tree.getUpdate().get(0).toString().matches(Pattern.quote(counter) + "(\\+\\+|--);?");
        check(steps, 9, "a counter that does not step by one", tree);
        boolean written = Pattern.compile("\\b" + counter + " ([-+*/%&|^]|<<|>>|>>>)?= |\\b" + counter + "(\\+\\+|--)").matcher(tree.getStatement().toString()).find();
        check(!written, 9, "a counter that is written to in its loop", tree);
        return super.visitForLoop(tree, none);
    }

    @Override
    public Void visitWhileLoop(WhileLoopTree tree, Void none) {
        check(false, 9, "while: not in use so far", tree);
        return super.visitWhileLoop(tree, none);
    }

    @Override
    public Void visitDoWhileLoop(DoWhileLoopTree tree, Void none) {
        check(false, 9, "do: not in use so far", tree);
        return super.visitDoWhileLoop(tree, none);
    }

    // ---- rules 2, 3, 6: what does not stand there at all

    @Override
    public Void visitLambdaExpression(LambdaExpressionTree tree, Void none) {
        check(false, 2, "a lambda", tree);
        return super.visitLambdaExpression(tree, none);
    }

    @Override
    public Void visitMemberReference(MemberReferenceTree tree, Void none) {
        check(false, 2, "a method reference", tree);
        return super.visitMemberReference(tree, none);
    }

    @Override
    public Void visitThrow(ThrowTree tree, Void none) {
        check(false, 6, "throw: the document wants no exception", tree);
        return super.visitThrow(tree, none);
    }

    @Override
    public Void visitTry(TryTree tree, Void none) {
        check(false, 6, "try: nothing is thrown", tree);
        return super.visitTry(tree, none);
    }

    @Override
    public Void visitSynchronized(SynchronizedTree tree, Void none) {
        check(false, 6, "synchronized", tree);
        return super.visitSynchronized(tree, none);
    }

    @Override
    public Void visitAssert(AssertTree tree, Void none) {
        check(false, 6, "assert", tree);
        return super.visitAssert(tree, none);
    }

    @Override
    public Void visitInstanceOf(InstanceOfTree tree, Void none) {
        check(false, 6, "instanceof: not in use so far", tree);
        return super.visitInstanceOf(tree, none);
    }

    @Override
    public Void visitAnnotation(AnnotationTree tree, Void none) {
        check(false, 4, "an annotation: not in use so far", tree);
        return super.visitAnnotation(tree, none);
    }

    @Override
    public Void visitLiteral(LiteralTree tree, Void none) {
        boolean number = tree.getValue() == null || tree.getValue() instanceof Integer || tree.getValue() instanceof Long
            || tree.getValue() instanceof Character || tree.getValue() instanceof Boolean;
        check(number, 3, "a text or a double: not in use so far", tree);
        return super.visitLiteral(tree, none);
    }

    private int finish(String text) {
        for (char c : text.toCharArray()) check(c == '\n' || c >= 32 && c <= 126, 4, "a sign with the code " + (int) c, null);
        check(own.size() <= MOST_CLASSES, 11, own.size() + " classes", null);
        int deepest = 0;
        for (String method : calls.keySet()) deepest = Math.max(deepest, depth(method, new TreeSet<>()));
        check(deepest <= MOST_DEPTH, 11, "calls go " + deepest + " deep", null);
        System.out.println(own.size() + " classes, calls " + deepest + " deep at most, " + looked + " places looked at, " + wrong + " outside the rules");
        return wrong;
    }

    public static void main(String[] args) throws IOException {
        JavaCompiler compiler = ToolProvider.getSystemJavaCompiler();
        Path file = args.length > 0 ? Path.of(args[0]) : FILE;
        try (StandardJavaFileManager files = compiler.getStandardFileManager(null, null, null)) {
            Iterable<? extends JavaFileObject> sources = files.getJavaFileObjects(file.toFile());
            JavacTask task = (JavacTask) compiler.getTask(null, files, null, List.of("--release", "17", "-proc:none"), null, sources);
            CompilationUnitTree unit = task.parse().iterator().next();
            task.analyze();
            LanguageTest test = new LanguageTest(unit, Trees.instance(task));
            test.scan(unit, null);
            if (test.finish(Files.readString(file)) != 0) System.exit(1);
        }
    }
}
