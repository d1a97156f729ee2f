import com.sun.source.tree.BinaryTree;
import com.sun.source.tree.CompilationUnitTree;
import com.sun.source.tree.ConditionalExpressionTree;
import com.sun.source.tree.ExpressionStatementTree;
import com.sun.source.tree.IfTree;
import com.sun.source.tree.LiteralTree;
import com.sun.source.tree.MethodTree;
import com.sun.source.tree.ReturnTree;
import com.sun.source.tree.Tree;
import com.sun.source.tree.UnaryTree;
import com.sun.source.util.JavacTask;
import com.sun.source.util.SourcePositions;
import com.sun.source.util.TreeScanner;
import com.sun.source.util.Trees;
import java.io.File;
import java.io.IOException;
import java.io.StringWriter;
import java.nio.file.Files;
import java.nio.file.Path;
import java.util.ArrayList;
import java.util.List;
import java.util.Map;
import java.util.concurrent.ExecutionException;
import java.util.concurrent.ExecutorService;
import java.util.concurrent.Executors;
import java.util.concurrent.Future;
import java.util.concurrent.TimeUnit;
import java.util.stream.Stream;
import javax.tools.JavaCompiler;
import javax.tools.StandardJavaFileManager;
import javax.tools.ToolProvider;

/**
 * Breaks the class in one place after another, and tells which breaks a test does not notice. Not run by .ci/run, as it
 * takes minutes: java -cp CLASSES Mutants CLASSES EdgesTest [FIRST LINE] [LAST LINE]
 */
public final class Mutants {
    private static final Path SOURCE = Path.of("src/main/java/GoatMatches.java");
    private static final int SECONDS = 20;
    private static final Map<Tree.Kind, String[]> OTHERS = Map.ofEntries(
            Map.entry(Tree.Kind.LESS_THAN, new String[] {"<", "<=", ">="}),
            Map.entry(Tree.Kind.LESS_THAN_EQUAL, new String[] {"<=", "<", ">"}),
            Map.entry(Tree.Kind.GREATER_THAN, new String[] {">", ">=", "<="}),
            Map.entry(Tree.Kind.GREATER_THAN_EQUAL, new String[] {">=", ">", "<"}),
            Map.entry(Tree.Kind.EQUAL_TO, new String[] {"==", "!="}),
            Map.entry(Tree.Kind.NOT_EQUAL_TO, new String[] {"!=", "=="}),
            Map.entry(Tree.Kind.CONDITIONAL_AND, new String[] {"&&", "||"}),
            Map.entry(Tree.Kind.CONDITIONAL_OR, new String[] {"||", "&&"}),
            Map.entry(Tree.Kind.PLUS, new String[] {"+", "-"}),
            Map.entry(Tree.Kind.MINUS, new String[] {"-", "+"}),
            Map.entry(Tree.Kind.MULTIPLY, new String[] {"*", "+"}),
            Map.entry(Tree.Kind.DIVIDE, new String[] {"/", "*"}),
            Map.entry(Tree.Kind.REMAINDER, new String[] {"%", "/"}),
            Map.entry(Tree.Kind.AND, new String[] {"&", "|"}),
            Map.entry(Tree.Kind.OR, new String[] {"|", "&"}),
            Map.entry(Tree.Kind.LEFT_SHIFT, new String[] {"<<", ">>"}),
            Map.entry(Tree.Kind.RIGHT_SHIFT, new String[] {">>", "<<"}));

    private record Break(int from, int to, String text, long line) { }

    private Mutants() { }

    public static void main(String[] args) throws IOException, InterruptedException, ExecutionException {
        String source = Files.readString(SOURCE);
        long first = args.length > 2 ? Long.parseLong(args[2]) : 0;
        long last = args.length > 3 ? Long.parseLong(args[3]) : Long.MAX_VALUE;
        ExecutorService pool = Executors.newFixedThreadPool(Runtime.getRuntime().availableProcessors());
        List<Future<String>> all = new ArrayList<>();
        for (Break b : breaks()) {
            if (b.line >= first && b.line <= last) {
                all.add(pool.submit(() -> outcome(source, b, args[0], args[1])));
            }
        }
        int[] counts = new int[3];
        for (Future<String> one : all) {
            String outcome = one.get();
            counts[outcome.isEmpty() ? 0 : outcome.equals("not compiled") ? 1 : 2]++;
            if (outcome.length() > 12) {
                System.out.println(outcome);
            }
        }
        pool.shutdown();
        System.out.println(counts[0] + " noticed, " + counts[1] + " not compiled, " + counts[2] + " not noticed");
    }

    private static List<Break> breaks() throws IOException {
        JavaCompiler compiler = ToolProvider.getSystemJavaCompiler();
        try (StandardJavaFileManager files = compiler.getStandardFileManager(null, null, null)) {
            JavacTask task = (JavacTask) compiler.getTask(null, files, null, null, null,
                    files.getJavaFileObjects(SOURCE.toFile()));
            CompilationUnitTree unit = task.parse().iterator().next();
            Finder finder = new Finder(unit, Trees.instance(task).getSourcePositions());
            unit.accept(finder, null);
            return finder.breaks;
        }
    }

    private static final class Finder extends TreeScanner<Void, Void> {
        private final CompilationUnitTree unit;
        private final SourcePositions places;
        private final String source;
        private final List<Break> breaks = new ArrayList<>();
        private boolean returnsBoolean = false;

        Finder(CompilationUnitTree unit, SourcePositions places) throws IOException {
            this.unit = unit;
            this.places = places;
            this.source = unit.getSourceFile().getCharContent(true).toString();
        }

        private int start(Tree tree) {
            return (int) places.getStartPosition(unit, tree);
        }

        private int end(Tree tree) {
            return (int) places.getEndPosition(unit, tree);
        }

        private String text(Tree tree) {
            return source.substring(start(tree), end(tree));
        }

        private void add(int from, int to, String text) {
            breaks.add(new Break(from, to, text, unit.getLineMap().getLineNumber(from)));
        }

        private void add(Tree tree, String text) {
            add(start(tree), end(tree), text);
        }

        @Override
        public Void visitMethod(MethodTree tree, Void v) {
            returnsBoolean = tree.getReturnType() != null && tree.getReturnType().toString().equals("boolean");
            return super.visitMethod(tree, v);
        }

        @Override
        public Void visitBinary(BinaryTree tree, Void v) {
            String[] signs = OTHERS.getOrDefault(tree.getKind(), new String[] {""});
            int left = end(tree.getLeftOperand());
            int at = source.indexOf(signs[0], left);
            for (int i = 1; i < signs.length; i++) {
                add(at, at + signs[0].length(), signs[i]);
            }
            if (tree.getKind() == Tree.Kind.CONDITIONAL_AND || tree.getKind() == Tree.Kind.CONDITIONAL_OR) {
                add(tree, text(tree.getLeftOperand()));
                add(tree, text(tree.getRightOperand()));
            }
            return super.visitBinary(tree, v);
        }

        @Override
        public Void visitLiteral(LiteralTree tree, Void v) {
            if (tree.getValue() instanceof Integer n) {
                add(tree, "" + (n + 1));
                add(tree, "(" + (n - 1) + ")");
            } else if (tree.getValue() instanceof Character c) {
                add(tree, "" + (c + 1));
                add(tree, "" + (c - 1));
            } else if (tree.getValue() instanceof Boolean is) {
                add(tree, "" + !is);
            }
            return super.visitLiteral(tree, v);
        }

        @Override
        public Void visitUnary(UnaryTree tree, Void v) {
            if (tree.getKind() == Tree.Kind.LOGICAL_COMPLEMENT) {
                add(tree, text(tree.getExpression()));
            }
            return super.visitUnary(tree, v);
        }

        @Override
        public Void visitExpressionStatement(ExpressionStatementTree tree, Void v) {
            add(tree, ";");
            return super.visitExpressionStatement(tree, v);
        }

        @Override
        public Void visitConditionalExpression(ConditionalExpressionTree tree, Void v) {
            add(tree, text(tree.getTrueExpression()));
            add(tree, text(tree.getFalseExpression()));
            return super.visitConditionalExpression(tree, v);
        }

        @Override
        public Void visitIf(IfTree tree, Void v) {
            add(tree.getCondition(), "(!" + text(tree.getCondition()) + ")");
            add(tree.getCondition(), "(false && " + text(tree.getCondition()) + ")");
            add(tree.getCondition(), "(true || " + text(tree.getCondition()) + ")");
            return super.visitIf(tree, v);
        }

        @Override
        public Void visitReturn(ReturnTree tree, Void v) {
            if (tree.getExpression() != null) {
                String text = text(tree.getExpression());
                add(tree.getExpression(), returnsBoolean ? "!(" + text + ")" : "(" + text + ") + 1");
            }
            return super.visitReturn(tree, v);
        }
    }

    /** Nothing if the test failed; else what was broken. */
    private static String outcome(String source, Break b, String classes, String test) throws IOException, InterruptedException {
        Path room = Files.createTempDirectory("mutant");
        try {
            Path file = room.resolve("GoatMatches.java");
            Files.writeString(file, source.substring(0, b.from) + b.text + source.substring(b.to));
            if (!compiles(file, room)) {
                return "not compiled";
            }
            String path = room + File.pathSeparator + classes;
            Process p = new ProcessBuilder("java", "-XX:TieredStopAtLevel=1", "-Xshare:auto", "-cp", path, test)
                    .redirectErrorStream(true).redirectOutput(ProcessBuilder.Redirect.DISCARD).start();
            boolean ended = p.waitFor(SECONDS, TimeUnit.SECONDS);
            if (!ended) {
                p.destroyForcibly().waitFor();
            }
            return ended && p.exitValue() == 0 ? "line " + b.line + ": " + source.substring(b.from, b.to).replaceAll("\\s+", " ")
                    + " -> " + b.text.replaceAll("\\s+", " ") : "";
        } finally {
            try (Stream<Path> files = Files.list(room)) {
                for (Path file : files.toList()) {
                    Files.delete(file);
                }
            }
            Files.delete(room);
        }
    }

    private static boolean compiles(Path file, Path room) throws IOException {
        JavaCompiler compiler = ToolProvider.getSystemJavaCompiler();
        try (StandardJavaFileManager files = compiler.getStandardFileManager(null, null, null)) {
            return compiler.getTask(new StringWriter(), files, null, List.of("-d", room.toString(), "-nowarn"), null,
                    files.getJavaFileObjects(file)).call();
        }
    }
}
