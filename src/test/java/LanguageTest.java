import com.sun.management.ThreadMXBean;
import com.sun.source.tree.BinaryTree;
import com.sun.source.tree.ClassTree;
import com.sun.source.tree.CompilationUnitTree;
import com.sun.source.tree.IdentifierTree;
import com.sun.source.tree.LiteralTree;
import com.sun.source.tree.MemberSelectTree;
import com.sun.source.tree.MethodInvocationTree;
import com.sun.source.tree.MethodTree;
import com.sun.source.tree.NewArrayTree;
import com.sun.source.tree.NewClassTree;
import com.sun.source.tree.Tree;
import com.sun.source.tree.VariableTree;
import com.sun.source.util.JavacTask;
import com.sun.source.util.SourcePositions;
import com.sun.source.util.TreeScanner;
import com.sun.source.util.Trees;
import java.io.File;
import java.io.IOException;
import java.lang.management.ManagementFactory;
import java.lang.reflect.Constructor;
import java.lang.reflect.Field;
import java.lang.reflect.Method;
import java.lang.reflect.Modifier;
import java.util.ArrayDeque;
import java.util.Deque;
import java.util.HashMap;
import java.util.HashSet;
import java.util.Map;
import java.util.Random;
import java.util.Set;
import java.util.TreeSet;
import javax.tools.JavaCompiler;
import javax.tools.StandardJavaFileManager;
import javax.tools.ToolProvider;

/** Holds the class against LANGUAGE.md as far as that can be read off it, and counts what calls make. */
public final class LanguageTest {
    private static final Set<Tree.Kind> RULED_OUT = Set.of(Tree.Kind.THROW, Tree.Kind.TRY, Tree.Kind.CATCH,
            Tree.Kind.SYNCHRONIZED, Tree.Kind.ASSERT, Tree.Kind.LAMBDA_EXPRESSION, Tree.Kind.MEMBER_REFERENCE,
            Tree.Kind.SWITCH_EXPRESSION, Tree.Kind.ANNOTATION, Tree.Kind.INSTANCE_OF);
    private static final Set<String> LIBRARY = Set.of("System.arraycopy", "Arrays.fill", "Math.max", "Math.min",
            "Math.abs", "Integer.bitCount", "WORDS.length", "WORDS.charAt", "SIGNS.indexOf");
    private static final Set<String> FACE = new TreeSet<>(Set.of("about", "ask", "bachelors", "back", "bare", "breaks",
            "calm", "day", "dear", "drive", "end", "fault", "feed", "flock", "gorge", "grass", "ground", "hold",
            "image", "later", "law", "lead", "ledges", "lies", "matched", "mixed", "mixes", "pen", "pull", "reach",
            "redo", "salt", "seen", "trick", "undo", "untell", "wants", "weds", "wells", "will"));
    private static int wrong = 0;

    private LanguageTest() { }

    private static void must(boolean is, String what) {
        if (!is) {
            wrong++;
            System.out.println("LanguageTest: " + what);
        }
    }

    public static void main(String[] args) throws IOException {
        face();
        source(new File("src/main/java/GoatMatches.java"));
        room();
        System.out.println("language: " + wrong + " wrong");
        if (wrong > 0) {
            System.exit(1);
        }
    }

    private static void face() {
        Class<?> face = GoatMatches.class;
        must(Modifier.isPublic(face.getModifiers()) && Modifier.isFinal(face.getModifiers()), "not public and final");
        Set<String> names = new TreeSet<>();
        for (Method m : face.getDeclaredMethods()) {
            boolean isPrivate = Modifier.isPrivate(m.getModifiers());
            must(isPrivate || Modifier.isPublic(m.getModifiers()), m + " is neither public nor private");
            must(!isPrivate || !FACE.contains(m.getName()), m + " bears a public one's name");
            if (!isPrivate) {
                names.add(m.getName());
            }
        }
        must(names.equals(FACE), "the face is " + names);
        for (Constructor<?> c : face.getDeclaredConstructors()) {
            must(Modifier.isPublic(c.getModifiers()) && c.getParameterCount() == 0, c + " is not the face's");
        }
        for (Field f : face.getDeclaredFields()) {
            boolean isNone = f.getName().equals("NONE");
            must(Modifier.isPrivate(f.getModifiers()) != isNone, f + " is not the face's");
        }
        must(face.getDeclaredClasses().length < 12, "too many classes");
        for (Class<?> c : face.getDeclaredClasses()) {
            must(Modifier.isStatic(c.getModifiers()) && !Modifier.isPublic(c.getModifiers()), c + " is not static");
        }
    }

    private static void source(File file) throws IOException {
        JavaCompiler compiler = ToolProvider.getSystemJavaCompiler();
        try (StandardJavaFileManager files = compiler.getStandardFileManager(null, null, null)) {
            JavacTask task = (JavacTask) compiler.getTask(null, files, null, null, null, files.getJavaFileObjects(file));
            CompilationUnitTree unit = task.parse().iterator().next();
            Reading reading = new Reading(unit, Trees.instance(task).getSourcePositions());
            unit.accept(reading, null);
            reading.deepest();
            must(unit.getImports().size() == 1, "imports " + unit.getImports());
        }
    }

    /** Goes over the source, and keeps which method calls which. */
    private static final class Reading extends TreeScanner<Void, Void> {
        private final CompilationUnitTree unit;
        private final SourcePositions places;
        private final Map<String, Set<String>> calls = new HashMap<>();
        private final Deque<String> classes = new ArrayDeque<>();
        private String method = null;

        Reading(CompilationUnitTree unit, SourcePositions places) {
            this.unit = unit;
            this.places = places;
        }

        private long line(long place) {
            return unit.getLineMap().getLineNumber(place);
        }

        @Override
        public Void scan(Tree tree, Void v) {
            if (tree != null) {
                must(!RULED_OUT.contains(tree.getKind()), tree.getKind() + " at line "
                        + line(places.getStartPosition(unit, tree)));
            }
            return super.scan(tree, v);
        }

        @Override
        public Void visitClass(ClassTree tree, Void v) {
            String name = tree.getSimpleName().toString();
            classes.push(name);
            int fields = 0;
            for (Tree member : tree.getMembers()) {
                if (member instanceof VariableTree field) {
                    boolean isStatic = field.getModifiers().getFlags().contains(javax.lang.model.element.Modifier.STATIC);
                    fields += isStatic ? 0 : 1;
                    must(!isStatic || field.getModifiers().getFlags().contains(javax.lang.model.element.Modifier.FINAL),
                            field.getName() + " is static and not final");
                }
                must(member.getKind() != Tree.Kind.BLOCK, "a block in " + name);
            }
            must(fields <= 20, name + " has " + fields + " fields");
            super.visitClass(tree, v);
            classes.pop();
            return null;
        }

        @Override
        public Void visitMethod(MethodTree tree, Void v) {
            method = tree.getName().toString();
            calls.computeIfAbsent(method, n -> new HashSet<>());
            long lines = line(places.getEndPosition(unit, tree)) - line(places.getStartPosition(unit, tree)) + 1;
            must(lines <= 60, method + " has " + lines + " lines");
            must(tree.getParameters().size() <= 7, method + " takes too many");
            super.visitMethod(tree, v);
            method = null;
            return null;
        }

        @Override
        public Void visitMethodInvocation(MethodInvocationTree tree, Void v) {
            Tree called = tree.getMethodSelect();
            if (called instanceof MemberSelectTree select) {
                String whole = select.toString();
                boolean library = Character.isUpperCase(whole.charAt(0));
                must(!library || LIBRARY.contains(whole) || whole.startsWith("Reader."), "calls " + whole);
                calls.get(method).add(library ? whole : select.getIdentifier().toString());
            } else if (called instanceof IdentifierTree own) {
                calls.get(method).add(own.getName().toString());
            }
            return super.visitMethodInvocation(tree, v);
        }

        @Override
        public Void visitNewArray(NewArrayTree tree, Void v) {
            must(method == null, "an array is made in " + method);
            return super.visitNewArray(tree, v);
        }

        @Override
        public Void visitNewClass(NewClassTree tree, Void v) {
            must(method == null || method.equals("<init>"), "an object is made in " + method);
            must(tree.getClassBody() == null, "an anonymous class");
            return super.visitNewClass(tree, v);
        }

        @Override
        public Void visitBinary(BinaryTree tree, Void v) {
            must(tree.getKind() != Tree.Kind.PLUS || !isText(tree.getLeftOperand()) && !isText(tree.getRightOperand()),
                    "texts joined by + at line " + line(places.getStartPosition(unit, tree)));
            return super.visitBinary(tree, v);
        }

        private static boolean isText(Tree tree) {
            return tree instanceof LiteralTree literal && literal.getValue() instanceof String;
        }

        /** By names alone, so a name that two classes have counts for both: never too few. */
        void deepest() {
            for (String name : calls.keySet()) {
                int depth = depth(name, new HashSet<>());
                must(depth <= 8, name + " calls " + depth + " deep");
            }
        }

        private int depth(String name, Set<String> open) {
            if (!calls.containsKey(name) || !open.add(name)) {
                return 0;
            }
            int most = 0;
            for (String called : calls.get(name)) {
                most = Math.max(most, depth(called, open));
            }
            open.remove(name);
            return most + 1;
        }
    }

    /** No call makes anything: the room that a run takes is what its constructors made. */
    private static void room() {
        ThreadMXBean bean = (ThreadMXBean) ManagementFactory.getThreadMXBean();
        GoatMatches x = Texts.of(Texts.sound(new Random(5)));
        int[] row = {1, 2, 3, 4, 5};
        all(x, row);
        long before = bean.getCurrentThreadAllocatedBytes();
        for (int i = 0; i < 20; i++) {
            all(x, row);
        }
        long made = bean.getCurrentThreadAllocatedBytes() - before;
        must(made < 1000, "calls made " + made + " bytes");
    }

    private static void all(GoatMatches x, int[] row) {
        x.feed(row[0], row[1], row[2], row[3], row[4]);
        x.end(10);
        x.gorge();
        x.salt(1);
        x.pen(0);
        x.pen(0);
        x.drive(0, 1);
        x.day();
        x.breaks(0);
        x.undo();
        x.redo();
        for (int f = 0; f < 6; f++) {
            for (int o = 0; o < 6; o++) {
                x.trick(f, o, 2, 5, 0);
                x.hold(f, o, 5, 0);
                x.lead(f, o, 5, 0);
                x.mixes(f, o, 5);
            }
            x.will(f, 9);
            x.weds(f);
            x.reach(f);
            x.pull(f, 0);
        }
        x.law(3);
        x.calm();
        x.dear();
        x.wells();
        x.bare();
        x.seen(2, 0, 1, true);
        x.untell(0);
        x.later(1);
        x.ledges(0);
        x.ask(1, 1, 0);
        x.image(1);
        x.back(1);
        x.bachelors(3);
        x.matched();
        x.grass();
    }
}
