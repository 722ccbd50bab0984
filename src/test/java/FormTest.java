import com.sun.source.tree.ArrayAccessTree;
import com.sun.source.tree.AssertTree;
import com.sun.source.tree.BinaryTree;
import com.sun.source.tree.BlockTree;
import com.sun.source.tree.CatchTree;
import com.sun.source.tree.ClassTree;
import com.sun.source.tree.CompilationUnitTree;
import com.sun.source.tree.CompoundAssignmentTree;
import com.sun.source.tree.DoWhileLoopTree;
import com.sun.source.tree.EnhancedForLoopTree;
import com.sun.source.tree.ExpressionTree;
import com.sun.source.tree.ForLoopTree;
import com.sun.source.tree.IdentifierTree;
import com.sun.source.tree.ImportTree;
import com.sun.source.tree.LambdaExpressionTree;
import com.sun.source.tree.LiteralTree;
import com.sun.source.tree.MemberReferenceTree;
import com.sun.source.tree.MemberSelectTree;
import com.sun.source.tree.MethodInvocationTree;
import com.sun.source.tree.MethodTree;
import com.sun.source.tree.NewArrayTree;
import com.sun.source.tree.NewClassTree;
import com.sun.source.tree.SynchronizedTree;
import com.sun.source.tree.ThrowTree;
import com.sun.source.tree.Tree;
import com.sun.source.tree.TryTree;
import com.sun.source.tree.TypeCastTree;
import com.sun.source.tree.VariableTree;
import com.sun.source.tree.WhileLoopTree;
import com.sun.source.util.JavacTask;
import com.sun.source.util.SourcePositions;
import com.sun.source.util.TreePath;
import com.sun.source.util.TreePathScanner;
import com.sun.source.util.Trees;
import java.io.IOException;
import java.nio.file.Files;
import java.nio.file.Path;
import java.util.ArrayList;
import java.util.HashMap;
import java.util.List;
import java.util.Map;
import java.util.Set;
import java.util.TreeSet;
import javax.lang.model.element.Element;
import javax.lang.model.element.ExecutableElement;
import javax.lang.model.element.Modifier;
import javax.lang.model.element.TypeElement;
import javax.tools.JavaCompiler;
import javax.tools.StandardJavaFileManager;
import javax.tools.ToolProvider;

/**
 * Tests the form of the class by its source: the document's public face, and the rules of
 * LANGUAGE.md, a method a rule. Where the class needs less than a rule leaves, the test asks for
 * that: who needs more looks at the rule first, and then changes the test.
 */
public final class FormTest {
    private static final Path SOURCE = Path.of("src/main/java/PolyDrums.java");

    /** "The public face", with what the interface says ahead of the calls. */
    private static final String[] FACE = {
        "public PolyDrums();",
        "---- tracks and steps",
        "public int addTrack(int n, int d)"
            + " throws IllegalArgumentException, IllegalStateException;",
        "public int set(int track, int step, int force, int r)"
            + " throws IndexOutOfBoundsException, IllegalArgumentException;",
        "public int setTurn(int track, int step, int a, int b)"
            + " throws IndexOutOfBoundsException, IllegalArgumentException;",
        "public int step(int track, int step, int what) throws IndexOutOfBoundsException;",
        "public int track(int track, int what) throws IndexOutOfBoundsException;",
        "public int tune(int track, int swing, int ring, int group)"
            + " throws IndexOutOfBoundsException, IllegalArgumentException;",
        "public boolean turn(int track, int what, boolean isOn) throws IndexOutOfBoundsException;",
        "public int spread(int track, int hits, int force)"
            + " throws IndexOutOfBoundsException, IllegalArgumentException;",
        "public int rotate(int track, int places)"
            + " throws IndexOutOfBoundsException, IllegalArgumentException;",
        "public int stretch(int track, int n)"
            + " throws IndexOutOfBoundsException, IllegalArgumentException;",
        "public int tap(int track, int tick, int force)"
            + " throws IndexOutOfBoundsException, IllegalArgumentException;",
        "public int tracks();",
        "---- sections",
        "public int addSection(int length, int set, boolean isNew)"
            + " throws IllegalArgumentException, IllegalStateException;",
        "public int dropSection() throws IllegalStateException;",
        "public int sectionAt(int tick) throws IllegalArgumentException;",
        "public int length();",
        "---- what sounds",
        "public int loudness(int track, int tick)"
            + " throws IndexOutOfBoundsException, IllegalArgumentException;",
        "public int hits(int tick) throws IllegalArgumentException;",
        "public int sounding(int tick) throws IllegalArgumentException;",
        "public int next(int track, int tick)"
            + " throws IndexOutOfBoundsException, IllegalArgumentException;",
        "public int count(int track, int from, int to)"
            + " throws IndexOutOfBoundsException, IllegalArgumentException;",
        "public int together(int a, int b, int from, int to)"
            + " throws IndexOutOfBoundsException, IllegalArgumentException;",
        "public int rounds(int track) throws IndexOutOfBoundsException;",
        "public long period();",
        "public double density(int track) throws IndexOutOfBoundsException;",
        "public int setSpeed(int beats) throws IllegalArgumentException;",
        "public double seconds(int tick) throws IllegalArgumentException;",
        "public long digest();",
    };

    private static final Set<String> THROWN = Set.of("IllegalStateException",
            "IllegalArgumentException", "IndexOutOfBoundsException");
    private static final Set<String> TYPES = Set.of("int", "long", "boolean", "double", "void",
            "int[]", "Track", "Section", "Track[]", "Section[]");
    private static final Set<String> CONSTANTS = Set.of("int", "long", "boolean", "char",
            "String");
    private static final Set<String> LIBRARY = Set.of("Math.min", "Math.max", "Math.abs",
            "System.arraycopy");
    /** Where an index, or a divisor that is no written number, is tested ahead of its use. */
    private static final Set<String> TEST_AN_INDEX = Set.of("addTrack", "addSection",
            "dropSection", "trackOrNull", "sectionOrNull", "read", "write");
    private static final Set<String> TEST_A_DIVISOR = Set.of("quotient", "rest",
            "greatestCommonDivisor", "leastCommonMultiple", "strokesPerRound", "seconds");

    private static final List<ClassTree> classes = new ArrayList<>();
    private static final List<MethodTree> methods = new ArrayList<>();
    private static final List<VariableTree> fields = new ArrayList<>();
    /** Each piece of the source with the way to it. */
    private static final List<TreePath> pieces = new ArrayList<>();
    private static final Map<String, Set<String>> callsOf = new HashMap<>();

    private static CompilationUnitTree unit;
    private static Trees trees;
    private static SourcePositions positions;
    private static String source;

    private static String rule = "";
    private static int wrong = 0;
    private static int checks = 0;

    public static void main(String[] args) throws IOException {
        readSource();
        theFace();
        rule1OneClass();
        rule1Members();
        rule2ClassesInside();
        rule3Types();
        rule4Library();
        rule5StaticFields();
        rule6Exceptions();
        rule7IndicesAndDivisors();
        rule8Recursion();
        rule9Loops();
        rule10Texts();
        rule11Sizes();
        rule11Depth();
        rule12Objects();
        System.out.println("FormTest: " + checks + " checks, " + wrong + " wrong");
        if (wrong != 0) {
            System.exit(1);
        }
    }

    // ---- how it is checked

    private static void due(String what, Object want, Object got) {
        checks++;
        if (!want.equals(got)) {
            wrong++;
            System.out.println(rule + ": " + what + ": found " + got + ", due is " + want);
        }
    }

    private static void dueWithin(String what, int most, int got) {
        due(what + ", at most " + most + ": " + got, true, got <= most);
    }

    private static void readSource() throws IOException {
        source = Files.readString(SOURCE);
        JavaCompiler compiler = ToolProvider.getSystemJavaCompiler();
        try (StandardJavaFileManager files = compiler.getStandardFileManager(null, null, null)) {
            JavacTask task = (JavacTask) compiler.getTask(null, files, null,
                    List.of("-proc:none"), null, files.getJavaFileObjects(SOURCE));
            unit = task.parse().iterator().next();
            task.analyze();
            trees = Trees.instance(task);
            positions = trees.getSourcePositions();
            new Collector().scan(unit, null);
        }
        for (TreePath piece : pieces) {
            noteCall(piece);
        }
    }

    private static final class Collector extends TreePathScanner<Void, Void> {
        @Override
        public Void scan(Tree tree, Void nothing) {
            if (tree == null) {
                return null;
            }
            TreePath here = getCurrentPath();
            TreePath path = here == null ? new TreePath(unit) : new TreePath(here, tree);
            // What javac adds by itself has no place in the source.
            if (positions.getEndPosition(unit, tree) < 0) {
                return null;
            }
            pieces.add(path);
            if (tree instanceof ClassTree) {
                classes.add((ClassTree) tree);
            } else if (tree instanceof MethodTree) {
                methods.add((MethodTree) tree);
            } else if (tree instanceof VariableTree && here.getLeaf() instanceof ClassTree) {
                fields.add((VariableTree) tree);
            }
            return super.scan(tree, nothing);
        }
    }

    private static void noteCall(TreePath piece) {
        Element called = null;
        if (piece.getLeaf() instanceof MethodInvocationTree
                || piece.getLeaf() instanceof NewClassTree) {
            called = trees.getElement(piece);
        }
        if (called != null && trees.getTree(called) != null && methodOf(piece) != null) {
            callsOf.computeIfAbsent(nameOf(methodOf(piece)), k -> new TreeSet<>())
                    .add(nameOf((MethodTree) trees.getTree(called)));
        }
    }

    private static <T extends Tree> List<T> all(Class<T> kind) {
        List<T> found = new ArrayList<>();
        for (TreePath piece : pieces) {
            if (kind.isInstance(piece.getLeaf())) {
                found.add(kind.cast(piece.getLeaf()));
            }
        }
        return found;
    }

    private static MethodTree methodOf(TreePath piece) {
        for (TreePath p = piece; p != null; p = p.getParentPath()) {
            if (p.getLeaf() instanceof MethodTree) {
                return (MethodTree) p.getLeaf();
            }
        }
        return null;
    }

    private static ClassTree classOf(Tree member) {
        for (ClassTree c : classes) {
            if (c.getMembers().contains(member)) {
                return c;
            }
        }
        return null;
    }

    private static String nameOf(MethodTree method) {
        return classOf(method).getSimpleName() + "." + method.getName();
    }

    private static int line(Tree tree, boolean isEnd) {
        long at = isEnd ? positions.getEndPosition(unit, tree)
                : positions.getStartPosition(unit, tree);
        return (int) unit.getLineMap().getLineNumber(at);
    }

    private static boolean isLoop(Tree tree) {
        return tree instanceof ForLoopTree || tree instanceof EnhancedForLoopTree
                || tree instanceof WhileLoopTree || tree instanceof DoWhileLoopTree;
    }

    // ---- the public face

    private static void theFace() {
        rule = "The public face";
        List<String> found = new ArrayList<>();
        int end = 0;
        for (MethodTree m : methods) {
            if (m.getModifiers().getFlags().contains(Modifier.PUBLIC)) {
                int begin = (int) positions.getStartPosition(unit, m);
                addHeadings(source.substring(end, begin), found);
                found.add(faceOf(m));
                end = (int) positions.getEndPosition(unit, m);
            }
        }
        due("number of lines", FACE.length, found.size());
        for (int i = 0; i < Math.min(FACE.length, found.size()); i++) {
            due("line " + i, FACE[i], found.get(i));
        }
    }

    private static void addHeadings(String text, List<String> found) {
        for (String line : text.split("\n")) {
            if (line.startsWith("    // ----")) {
                found.add(line.substring(7));
            }
        }
    }

    private static String faceOf(MethodTree m) {
        StringBuilder text = new StringBuilder("public ");
        boolean isConstructor = m.getReturnType() == null;
        text.append(isConstructor ? "PolyDrums" : m.getReturnType() + " " + m.getName());
        List<String> parameters = new ArrayList<>();
        for (VariableTree p : m.getParameters()) {
            parameters.add(p.getType() + " " + p.getName());
        }
        text.append('(').append(String.join(", ", parameters)).append(')');
        List<String> thrown = new ArrayList<>();
        for (ExpressionTree t : m.getThrows()) {
            thrown.add(t.toString());
        }
        text.append(thrown.isEmpty() ? "" : " throws ").append(String.join(", ", thrown));
        return text.append(';').toString();
    }

    // ---- LANGUAGE.md, rule by rule

    private static void rule1OneClass() {
        rule = "rule 1";
        due("package lines", true, unit.getPackage() == null);
        due("classes beside the public one", 1, unit.getTypeDecls().size());
        ClassTree whole = classes.get(0);
        due("name", "PolyDrums", whole.getSimpleName().toString());
        due("modifiers", Set.of(Modifier.PUBLIC, Modifier.FINAL), whole.getModifiers().getFlags());
        due("superclass", true, whole.getExtendsClause() == null);
        due("interfaces", List.of(), List.copyOf(whole.getImplementsClause()));
    }

    private static void rule1Members() {
        rule = "rule 1";
        ClassTree whole = classes.get(0);
        Set<String> ofTheFace = new TreeSet<>();
        Set<String> ofOthers = new TreeSet<>();
        for (MethodTree m : methods) {
            boolean isPublic = m.getModifiers().getFlags().contains(Modifier.PUBLIC);
            boolean isPrivate = m.getModifiers().getFlags().contains(Modifier.PRIVATE);
            due(m.getName() + " is of the face, or private", true,
                    isPrivate || isPublic && classOf(m) == whole);
            if (m.getReturnType() != null) {
                (isPublic ? ofTheFace : ofOthers).add(m.getName().toString());
            }
        }
        ofOthers.retainAll(ofTheFace);
        due("private methods with the name of a public one", Set.of(), ofOthers);
        for (VariableTree f : fields) {
            due(f.getName() + " is private", true,
                    f.getModifiers().getFlags().contains(Modifier.PRIVATE));
        }
    }

    private static void rule2ClassesInside() {
        rule = "rule 2";
        for (ClassTree c : classes.subList(1, classes.size())) {
            due(c.getSimpleName() + " stands in the class", true,
                    classes.get(0).getMembers().contains(c));
            due(c.getSimpleName() + " is private and static", true, c.getModifiers().getFlags()
                    .containsAll(Set.of(Modifier.PRIVATE, Modifier.STATIC)));
        }
        due("lambdas", 0, all(LambdaExpressionTree.class).size());
        due("method references", 0, all(MemberReferenceTree.class).size());
    }

    private static void rule3Types() {
        rule = "rule 3";
        for (VariableTree v : all(VariableTree.class)) {
            due("type of " + v.getName() + ": " + v.getType(), true,
                    TYPES.contains(v.getType().toString()));
        }
        for (MethodTree m : methods) {
            due("answer of " + m.getName(), true, m.getReturnType() == null
                    || TYPES.contains(m.getReturnType().toString()));
        }
        for (TreePath piece : pieces) {
            if (piece.getLeaf() instanceof TypeCastTree) {
                String to = ((TypeCastTree) piece.getLeaf()).getType().toString();
                due("cast to " + to, true, Set.of("int", "long", "double").contains(to));
            }
        }
    }

    /** Rule 13 holds by the same: nothing that is allowed here knows a clock or a file. */
    private static void rule4Library() {
        rule = "rule 4";
        due("imports", List.of(), all(ImportTree.class));
        for (TreePath piece : pieces) {
            if (!(piece.getLeaf() instanceof MethodInvocationTree)) {
                continue;
            }
            ExecutableElement called = (ExecutableElement) trees.getElement(piece);
            TypeElement owner = (TypeElement) called.getEnclosingElement();
            // A constructor's call of Object's one is javac's own.
            if (trees.getTree(called) == null && !owner.getSimpleName().contentEquals("Object")) {
                String name = owner.getSimpleName() + "." + called.getSimpleName();
                due("call of " + name, true, LIBRARY.contains(name));
            }
        }
        for (LiteralTree text : all(LiteralTree.class)) {
            if (text.getValue() instanceof String) {
                due("signs of " + text, true,
                        ((String) text.getValue()).chars().allMatch(c -> c >= 1 && c <= 127));
            }
        }
    }

    private static void rule5StaticFields() {
        rule = "rule 5";
        for (VariableTree f : fields) {
            Set<Modifier> flags = f.getModifiers().getFlags();
            if (flags.contains(Modifier.STATIC)) {
                due(f.getName() + " is final", true, flags.contains(Modifier.FINAL));
                due(f.getName() + " is a constant", true,
                        CONSTANTS.contains(f.getType().toString()));
            }
        }
        for (ClassTree c : classes) {
            for (Tree member : c.getMembers()) {
                due("a static block", false, member instanceof BlockTree);
            }
        }
    }

    private static void rule6Exceptions() {
        rule = "rule 6";
        for (TreePath piece : pieces) {
            if (piece.getLeaf() instanceof ThrowTree) {
                dueThrow((ThrowTree) piece.getLeaf(), methodOf(piece));
            }
        }
        due("try", 0, all(TryTree.class).size());
        due("catch", 0, all(CatchTree.class).size());
        due("synchronized", 0, all(SynchronizedTree.class).size());
        due("assert", 0, all(AssertTree.class).size());
        for (MethodTree m : methods) {
            due("a method of every object: " + m.getName(), false,
                    Set.of("equals", "hashCode", "toString").contains(m.getName().toString()));
        }
    }

    private static void dueThrow(ThrowTree thrown, MethodTree in) {
        due("throw new in " + in.getName(), true,
                thrown.getExpression() instanceof NewClassTree);
        NewClassTree made = (NewClassTree) thrown.getExpression();
        due("throw new " + made.getIdentifier(), true,
                THROWN.contains(made.getIdentifier().toString()));
        for (ExpressionTree argument : made.getArguments()) {
            due("a written text in " + in.getName(), true, argument instanceof LiteralTree);
        }
        due("throw in a constructor", false, in.getReturnType() == null);
    }

    private static void rule7IndicesAndDivisors() {
        rule = "rule 7";
        for (TreePath piece : pieces) {
            Tree leaf = piece.getLeaf();
            if (leaf instanceof ArrayAccessTree) {
                String in = methodOf(piece).getName().toString();
                due("an index in " + in, true, TEST_AN_INDEX.contains(in));
            }
            if (isDivision(leaf) && !isNumber(piece)) {
                String in = methodOf(piece).getName().toString();
                due("a divisor in " + in, true, TEST_A_DIVISOR.contains(in));
            }
            if (leaf instanceof NewArrayTree) {
                due("an array of " + leaf + " is made of a constant length", true,
                        methodOf(piece) == null);
            }
        }
    }

    private static boolean isDivision(Tree tree) {
        return Set.of(Tree.Kind.DIVIDE, Tree.Kind.REMAINDER, Tree.Kind.DIVIDE_ASSIGNMENT,
                Tree.Kind.REMAINDER_ASSIGNMENT).contains(tree.getKind());
    }

    /** Whether what a division divides by is a number other than 0 that is written there. */
    private static boolean isNumber(TreePath division) {
        Tree tree = division.getLeaf();
        ExpressionTree divisor = tree instanceof BinaryTree
                ? ((BinaryTree) tree).getRightOperand()
                : ((CompoundAssignmentTree) tree).getExpression();
        return divisor instanceof LiteralTree
                && ((Number) ((LiteralTree) divisor).getValue()).doubleValue() != 0.0;
    }

    private static void rule8Recursion() {
        rule = "rule 8";
        for (String name : callsOf.keySet()) {
            due(name + " calls itself, at last", false, reachedFrom(name).contains(name));
        }
    }

    private static Set<String> reachedFrom(String name) {
        Set<String> reached = new TreeSet<>();
        List<String> open = new ArrayList<>(callsOf.getOrDefault(name, Set.of()));
        while (!open.isEmpty()) {
            String next = open.remove(open.size() - 1);
            if (reached.add(next)) {
                open.addAll(callsOf.getOrDefault(next, Set.of()));
            }
        }
        return reached;
    }

    private static void rule9Loops() {
        rule = "rule 9";
        for (TreePath piece : pieces) {
            Tree leaf = piece.getLeaf();
            if (!isLoop(leaf)) {
                continue;
            }
            String in = methodOf(piece).getName().toString();
            due("a loop with a counter in " + in, true, leaf instanceof ForLoopTree);
            ForLoopTree loop = (ForLoopTree) leaf;
            due("a bound in " + in, true, loop.getCondition() != null
                    && loop.getCondition().toString().matches("\\w+ (<|<=|>=) .*"));
            due("a step in " + in, 1, loop.getUpdate().size());
            String counter = loop.getInitializer().get(0).toString().split(" ")[1];
            due("a counter in " + in, true, loop.getUpdate().get(0).toString()
                    .matches(counter + "(\\+\\+|--);?"));
            due("the counter is left alone in " + in, false, (" " + loop.getStatement())
                    .matches("(?s).*\\W" + counter + "( =|\\+\\+|--| \\+=| -=)[^=].*"));
        }
    }

    private static void rule10Texts() {
        rule = "rule 10";
        for (TreePath piece : pieces) {
            if (piece.getLeaf() instanceof BinaryTree
                    || piece.getLeaf() instanceof CompoundAssignmentTree) {
                due("a text is joined: " + piece.getLeaf(), true,
                        trees.getTypeMirror(piece).getKind().isPrimitive());
            }
        }
    }

    private static void rule11Sizes() {
        rule = "rule 11";
        dueWithin("classes", 12, classes.size());
        for (MethodTree m : methods) {
            dueWithin("parameters of " + m.getName(), 7, m.getParameters().size());
            dueWithin("lines of " + m.getName(), 60, line(m, true) - line(m, false) + 1);
        }
        for (ClassTree c : classes) {
            int count = 0;
            for (VariableTree f : fields) {
                boolean isConstant = f.getModifiers().getFlags().contains(Modifier.STATIC);
                count += c.getMembers().contains(f) && !isConstant ? 1 : 0;
            }
            dueWithin("fields of " + c.getSimpleName(), 20, count);
        }
    }

    private static void rule11Depth() {
        rule = "rule 11";
        for (MethodTree m : methods) {
            dueWithin("depth of the calls from " + m.getName(), 8, depth(nameOf(m), 0));
        }
    }

    private static int depth(String name, int above) {
        int most = 1;
        // Rule 8 tells of a circle of calls; here it must only come to an end.
        if (above < 50) {
            for (String called : callsOf.getOrDefault(name, Set.of())) {
                most = Math.max(most, 1 + depth(called, above + 1));
            }
        }
        return most;
    }

    private static void rule12Objects() {
        rule = "rule 12";
        for (TreePath piece : pieces) {
            if (!(piece.getLeaf() instanceof NewClassTree)
                    && !(piece.getLeaf() instanceof NewArrayTree)) {
                continue;
            }
            for (TreePath p = piece; p != null; p = p.getParentPath()) {
                due("made in a loop: " + piece.getLeaf(), false, isLoop(p.getLeaf()));
            }
        }
        for (MethodTree m : methods) {
            Set<String> calls = callsOf.getOrDefault(nameOf(m), Set.of());
            if (m.getReturnType() == null && !calls.isEmpty()) {
                due("a class that others can't extend: " + nameOf(m), true, classOf(m)
                        .getModifiers().getFlags().contains(Modifier.FINAL));
            }
        }
        for (TreePath piece : pieces) {
            MethodTree in = methodOf(piece);
            boolean isThis = piece.getLeaf() instanceof IdentifierTree
                    && ((IdentifierTree) piece.getLeaf()).getName().contentEquals("this");
            if (isThis && in != null && in.getReturnType() == null) {
                due("a constructor hands itself out: " + nameOf(in), true,
                        piece.getParentPath().getLeaf() instanceof MemberSelectTree);
            }
        }
    }
}
