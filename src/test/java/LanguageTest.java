import com.sun.source.tree.AssignmentTree;
import com.sun.source.tree.BinaryTree;
import com.sun.source.tree.ClassTree;
import com.sun.source.tree.CompilationUnitTree;
import com.sun.source.tree.CompoundAssignmentTree;
import com.sun.source.tree.ImportTree;
import com.sun.source.tree.MemberSelectTree;
import com.sun.source.tree.MethodInvocationTree;
import com.sun.source.tree.MethodTree;
import com.sun.source.tree.NewArrayTree;
import com.sun.source.tree.NewClassTree;
import com.sun.source.tree.Tree;
import com.sun.source.tree.UnaryTree;
import com.sun.source.tree.VariableTree;
import com.sun.source.util.JavacTask;
import com.sun.source.util.TreePath;
import com.sun.source.util.TreePathScanner;
import com.sun.source.util.Trees;
import java.lang.reflect.Constructor;
import java.lang.reflect.Field;
import java.lang.reflect.Method;
import java.lang.reflect.Modifier;
import java.nio.file.Path;
import java.util.EnumSet;
import java.util.HashMap;
import java.util.HashSet;
import java.util.LinkedHashSet;
import java.util.Map;
import java.util.Set;
import java.util.TreeSet;
import javax.lang.model.element.Element;
import javax.lang.model.element.ElementKind;
import javax.lang.model.type.TypeKind;
import javax.tools.JavaCompiler;
import javax.tools.StandardJavaFileManager;
import javax.tools.ToolProvider;

/** The rules of LANGUAGE.md that can be seen in the text and in the compiled class. */
public final class LanguageTest {
    private static final Set<String> FACE = Set.of(
        "boolean glass(int,int,int)", "long index(int,int)", "int surface(int)", "int clear(int)", "boolean put(int,int,int,long)",
        "boolean behind(int,int,int,boolean)", "long get(int,int,int)", "int kind(int,int,int)", "boolean ray(int,int,long)",
        "boolean wave(int,int)", "int trace(int,int)", "long at(int,int)", "long paraxial(int,int,int)", "long row(int,int)",
        "int spot(int,int,int)", "long spotted(int)", "int cut(int)", "int want(int,int,int,int,int,int)", "long merit(int)",
        "int vary(int,int,int,int,int)", "int improve(int,int)", "long step(int,int)", "int tolerance(int,int,int,int)",
        "long effect(int,int)", "int worst(int)", "long worstMerit()", "int solve(int,int,int,int,int,int,int)",
        "boolean reverse(int,int)", "boolean scale(int,int,int)", "boolean join(int,int,int,long)", "int differ(int,int)", "int count(int,int)");
    private static final Set<Tree.Kind> FORBIDDEN = EnumSet.of(Tree.Kind.THROW, Tree.Kind.TRY, Tree.Kind.CATCH, Tree.Kind.SYNCHRONIZED,
        Tree.Kind.ASSERT, Tree.Kind.LAMBDA_EXPRESSION, Tree.Kind.MEMBER_REFERENCE, Tree.Kind.REMAINDER_ASSIGNMENT);
    private static final Set<String> LIBRARY = Set.of("Math.min", "Math.max", "Math.abs", "Long.numberOfLeadingZeros", "System.arraycopy", "Arrays.fill");
    private static final Set<String> MAKES = Set.of("<init>");

    private static int wrong = 0;
    private static CompilationUnitTree unit;
    private static Trees trees;
    private static final Map<Element, Set<Element>> CALLS = new HashMap<>();

    private static void fault(int rule, String what) {
        wrong++;
        System.out.println("rule " + rule + ": " + what);
    }

    public static void main(String[] args) throws Exception {
        face();
        parse();
        new Rules().scan(unit, null);
        depth();
        System.out.println(wrong == 0 ? "LanguageTest: all as due" : "LanguageTest: " + wrong + " wrong");
        if (wrong != 0) {
            System.exit(1);
        }
    }

    private static void face() {
        Class<?> c = LensBench.class;
        Set<String> found = new HashSet<>();
        Set<String> names = new HashSet<>();
        for (Method m : c.getDeclaredMethods()) {
            StringBuilder text = new StringBuilder(m.getReturnType() + " " + m.getName() + "(");
            for (Class<?> p : m.getParameterTypes()) {
                text.append(text.charAt(text.length() - 1) == '(' ? "" : ",").append(p);
            }
            if (Modifier.isPublic(m.getModifiers())) {
                found.add(text + ")");
                names.add(m.getName());
            } else if (!Modifier.isPrivate(m.getModifiers())) {
                fault(1, m + " is neither public nor private");
            }
        }
        if (!found.equals(FACE)) {
            fault(1, "the face is " + new TreeSet<>(found));
        }
        for (Method m : c.getDeclaredMethods()) {
            if (Modifier.isPrivate(m.getModifiers()) && names.contains(m.getName())) {
                fault(1, m + " bears a public name");
            }
        }
        for (Constructor<?> made : c.getDeclaredConstructors()) {
            if (!Modifier.isPublic(made.getModifiers()) || made.getParameterCount() != 0) {
                fault(1, made.toString());
            }
        }
        for (Field f : c.getDeclaredFields()) {
            if (!Modifier.isPrivate(f.getModifiers()) && !f.getName().equals("NONE")) {
                fault(1, f + " is not private");
            }
        }
        if (!Modifier.isFinal(c.getModifiers()) || !Modifier.isPublic(c.getModifiers()) || LensBench.NONE != -1) {
            fault(1, "public, final, NONE");
        }
    }

    private static void parse() throws Exception {
        JavaCompiler compiler = ToolProvider.getSystemJavaCompiler();
        StandardJavaFileManager files = compiler.getStandardFileManager(null, null, null);
        JavacTask task = (JavacTask) compiler.getTask(null, files, null, null, null,
            files.getJavaFileObjects(Path.of("src/main/java/LensBench.java")));
        unit = task.parse().iterator().next();
        task.analyze();
        trees = Trees.instance(task);
    }

    private static boolean isReal(TreePath path) {
        TypeKind kind = trees.getTypeMirror(path).getKind();
        return kind == TypeKind.DOUBLE || kind == TypeKind.FLOAT;
    }

    /** Walks over the text once. */
    private static final class Rules extends TreePathScanner<Void, Void> {
        private int classes = 0;
        private Element method;

        @Override
        public Void scan(Tree tree, Void none) {
            if (tree != null && FORBIDDEN.contains(tree.getKind())) {
                fault(6, tree.getKind() + ": " + tree);
            }
            return super.scan(tree, none);
        }

        @Override
        public Void visitImport(ImportTree tree, Void none) {
            String name = tree.getQualifiedIdentifier().toString();
            if (!Set.of("java.util.Arrays", "java.util.ArrayList", "java.util.List").contains(name)) {
                fault(4, "import " + name);
            }
            return super.visitImport(tree, none);
        }

        @Override
        public Void visitClass(ClassTree tree, Void none) {
            classes++;
            if (classes > 12) {
                fault(11, "more than twelve classes");
            }
            int fields = 0;
            for (Tree member : tree.getMembers()) {
                if (member instanceof VariableTree) {
                    VariableTree field = (VariableTree) member;
                    Set<javax.lang.model.element.Modifier> flags = field.getModifiers().getFlags();
                    boolean isStatic = flags.contains(javax.lang.model.element.Modifier.STATIC);
                    fields += isStatic ? 0 : 1;
                    String type = field.getType().toString();
                    if (isStatic && (!flags.contains(javax.lang.model.element.Modifier.FINAL)
                        || !Set.of("int", "long", "boolean", "char", "String", "int[]", "long[]", "char[]", "byte[]").contains(type))) {
                        fault(5, "static " + field);
                    }
                }
                if (member instanceof ClassTree && !((ClassTree) member).getModifiers().getFlags().contains(javax.lang.model.element.Modifier.STATIC)) {
                    fault(2, ((ClassTree) member).getSimpleName() + " is not static");
                }
                if (member.getKind() == Tree.Kind.BLOCK) {
                    fault(5, "an initialiser block");
                }
            }
            if (fields > 20) {
                fault(11, tree.getSimpleName() + " has " + fields + " fields");
            }
            return super.visitClass(tree, none);
        }

        @Override
        public Void visitMethod(MethodTree tree, Void none) {
            method = trees.getElement(getCurrentPath());
            CALLS.putIfAbsent(method, new LinkedHashSet<>());
            if (tree.getParameters().size() > 7) {
                fault(11, tree.getName() + " takes more than seven");
            }
            long from = unit.getLineMap().getLineNumber(trees.getSourcePositions().getStartPosition(unit, tree));
            long to = unit.getLineMap().getLineNumber(trees.getSourcePositions().getEndPosition(unit, tree));
            if (to - from + 1 > 60) {
                fault(11, tree.getName() + " has " + (to - from + 1) + " lines");
            }
            return super.visitMethod(tree, none);
        }

        @Override
        public Void visitMethodInvocation(MethodInvocationTree tree, Void none) {
            Element called = trees.getElement(getCurrentPath());
            String owner = called.getEnclosingElement().toString();
            if (owner.startsWith("LensBench")) {
                CALLS.get(method).add(called);
            } else if (!MAKES.contains(called.getSimpleName().toString())) {
                String name = called.getEnclosingElement().getSimpleName() + "." + called.getSimpleName();
                if (!LIBRARY.contains(name)) {
                    fault(4, name);
                }
                tree.getArguments().forEach(a -> {
                    if (isReal(new TreePath(getCurrentPath(), a))) {
                        fault(4, "a library call over doubles: " + tree);
                    }
                });
            }
            return super.visitMethodInvocation(tree, none);
        }

        @Override
        public Void visitNewClass(NewClassTree tree, Void none) {
            onlyInConstructors(tree);
            if (tree.getClassBody() != null) {
                fault(2, "an anonymous class");
            }
            return super.visitNewClass(tree, none);
        }

        @Override
        public Void visitNewArray(NewArrayTree tree, Void none) {
            if (method != null && tree.getInitializers() == null) {
                onlyInConstructors(tree);
            }
            return super.visitNewArray(tree, none);
        }

        /** The room is small: no call makes anything. */
        private void onlyInConstructors(Tree tree) {
            if (method == null || method.getKind() != ElementKind.CONSTRUCTOR) {
                fault(12, "made outside a constructor: " + tree);
            }
        }

        @Override
        public Void visitBinary(BinaryTree tree, Void none) {
            if (tree.getKind() == Tree.Kind.REMAINDER && isReal(getCurrentPath())) {
                fault(3, tree.toString());
            }
            return super.visitBinary(tree, none);
        }

        @Override
        public Void visitUnary(UnaryTree tree, Void none) {
            boolean literal = tree.getExpression().getKind() == Tree.Kind.DOUBLE_LITERAL;
            if (isReal(getCurrentPath()) && !literal) {
                fault(3, "a sign turned without + - * /: " + tree);
            }
            return super.visitUnary(tree, none);
        }

        @Override
        public Void visitCompoundAssignment(CompoundAssignmentTree tree, Void none) {
            if (isReal(getCurrentPath())) {
                fault(3, tree.toString());
            }
            return super.visitCompoundAssignment(tree, none);
        }

        @Override
        public Void visitMemberSelect(MemberSelectTree tree, Void none) {
            String owner = tree.getExpression().toString();
            if (Set.of("Double", "Float", "StrictMath", "Character", "Objects").contains(owner)) {
                fault(4, tree.toString());
            }
            return super.visitMemberSelect(tree, none);
        }

        @Override
        public Void visitAssignment(AssignmentTree tree, Void none) {
            if (isReal(getCurrentPath()) && tree.getExpression().getKind() == Tree.Kind.ASSIGNMENT) {
                fault(3, tree.toString());
            }
            return super.visitAssignment(tree, none);
        }
    }

    private static void depth() {
        Map<Element, Integer> known = new HashMap<>();
        for (Element e : CALLS.keySet()) {
            int deep = depth(e, known, new LinkedHashSet<>());
            if (deep > 8) {
                fault(11, e + " goes " + deep + " deep");
            }
        }
    }

    private static int depth(Element e, Map<Element, Integer> known, Set<Element> open) {
        if (!open.add(e)) {
            fault(8, "recursion: " + open);
            return 100;
        }
        Integer found = known.get(e);
        if (found == null) {
            int most = 0;
            for (Element called : CALLS.getOrDefault(e, Set.of())) {
                most = Math.max(most, depth(called, known, open));
            }
            found = most + 1;
            known.put(e, found);
        }
        open.remove(e);
        return found;
    }
}
