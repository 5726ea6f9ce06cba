import com.sun.source.tree.BinaryTree;
import com.sun.source.tree.CompilationUnitTree;
import com.sun.source.tree.CompoundAssignmentTree;
import com.sun.source.tree.Tree;
import com.sun.source.util.JavacTask;
import com.sun.source.util.SourcePositions;
import com.sun.source.util.TreePathScanner;
import com.sun.source.util.Trees;
import java.io.File;
import java.nio.file.Files;
import java.nio.file.Path;
import java.util.ArrayList;
import java.util.List;
import java.util.TreeMap;
import javax.lang.model.type.TypeKind;
import javax.lang.model.type.TypeMirror;
import javax.tools.JavaCompiler;
import javax.tools.StandardJavaFileManager;
import javax.tools.ToolProvider;

/**
 * Rule 3 of LANGUAGE.md: no step on doubles answers NaN. A copy of the class is made in which the answer of each
 * + - * / of doubles goes through NanWatch, and the other tests' calls are run on it.
 */
public final class NanTest {
    private static final String WATCH = "final class NanWatch { static double see(double v, int line) {"
        + " if (v != v) { System.out.println(\"NaN made at line \" + line); System.exit(1); } return v; } }\n";

    public static void main(String[] args) throws Exception {
        Path source = Path.of("src/main/java/LensBench.java");
        Path made = Files.createTempDirectory("nan");
        int steps = writeWatched(source, made.resolve("LensBench.java"));
        Files.writeString(made.resolve("NanWatch.java"), WATCH);
        List<String> call = new ArrayList<>(List.of("-nowarn", "-d", made.toString()));
        call.add(made.resolve("LensBench.java").toString());
        call.add(made.resolve("NanWatch.java").toString());
        for (String name : new String[] {"RandomRunsTest", "RefBench", "PromisesTest", "NumbersTest", "GreatNumbersTest", "Due", "Benches",
            "TermsTest", "BoundariesTest", "EdgesTest"}) {
            call.add("src/test/java/" + name + ".java");
        }
        int built = ToolProvider.getSystemJavaCompiler().run(null, null, null, call.toArray(new String[0]));
        int failed = built;
        String[][] runs = {{"RandomRunsTest", "900", "5000"}, {"PromisesTest"}, {"NumbersTest"}, {"GreatNumbersTest"},
            {"TermsTest"}, {"BoundariesTest"}, {"EdgesTest"}};
        for (int i = 0; i < runs.length && failed == 0; i++) {
            failed = run(made, runs[i]);
        }
        deleteAll(made.toFile());
        System.out.println("NanTest: " + steps + " steps watched" + (failed == 0 && steps > 100 ? ", none answers NaN" : ", FAILED"));
        if (failed != 0 || steps <= 100) {
            System.exit(1);
        }
    }

    private static int run(Path made, String[] what) throws Exception {
        List<String> call = new ArrayList<>(List.of("java", "-cp", made.toString()));
        call.addAll(List.of(what));
        return new ProcessBuilder(call).inheritIO().start().waitFor();
    }

    private static int writeWatched(Path source, Path target) throws Exception {
        JavaCompiler compiler = ToolProvider.getSystemJavaCompiler();
        StandardJavaFileManager files = compiler.getStandardFileManager(null, null, null);
        JavacTask task = (JavacTask) compiler.getTask(null, files, null, null, null, files.getJavaFileObjects(source));
        CompilationUnitTree unit = task.parse().iterator().next();
        task.analyze();
        Trees trees = Trees.instance(task);
        SourcePositions positions = trees.getSourcePositions();
        TreeMap<Long, String> opened = new TreeMap<>();
        TreeMap<Long, String> closed = new TreeMap<>();
        int[] steps = {0};
        new TreePathScanner<Void, Void>() {
            @Override
            public Void visitBinary(BinaryTree tree, Void none) {
                TypeMirror type = trees.getTypeMirror(getCurrentPath());
                if (type.getKind() == TypeKind.DOUBLE || type.getKind() == TypeKind.FLOAT) {
                    long start = positions.getStartPosition(unit, tree);
                    long end = positions.getEndPosition(unit, tree);
                    long line = unit.getLineMap().getLineNumber(start);
                    opened.merge(start, "NanWatch.see(", String::concat);
                    closed.merge(end, ", " + line + ")", String::concat);
                    steps[0]++;
                }
                return super.visitBinary(tree, none);
            }

            @Override
            public Void visitCompoundAssignment(CompoundAssignmentTree tree, Void none) {
                TypeMirror type = trees.getTypeMirror(getCurrentPath());
                if (type.getKind() == TypeKind.DOUBLE || type.getKind() == TypeKind.FLOAT) {
                    throw new IllegalStateException("a step that can't be watched: " + tree);
                }
                return super.visitCompoundAssignment(tree, none);
            }
        }.scan(unit, null);
        String text = Files.readString(source);
        StringBuilder out = new StringBuilder();
        for (int i = 0; i <= text.length(); i++) {
            out.append(closed.getOrDefault((long) i, ""));
            out.append(opened.getOrDefault((long) i, ""));
            if (i < text.length()) {
                out.append(text.charAt(i));
            }
        }
        Files.writeString(target, out.toString());
        return steps[0];
    }

    private static void deleteAll(File file) {
        File[] inside = file.listFiles();
        if (inside != null) {
            for (File f : inside) {
                deleteAll(f);
            }
        }
        file.delete();
    }
}
