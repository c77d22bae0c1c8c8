import com.sun.source.tree.ArrayTypeTree;
import com.sun.source.tree.BinaryTree;
import com.sun.source.tree.ClassTree;
import com.sun.source.tree.CompilationUnitTree;
import com.sun.source.tree.ImportTree;
import com.sun.source.tree.MemberSelectTree;
import com.sun.source.tree.MethodInvocationTree;
import com.sun.source.tree.MethodTree;
import com.sun.source.tree.NewClassTree;
import com.sun.source.tree.Tree;
import com.sun.source.tree.VariableTree;
import com.sun.source.util.JavacTask;
import com.sun.source.util.TreePath;
import com.sun.source.util.TreePathScanner;
import com.sun.source.util.Trees;
import java.io.File;
import java.lang.reflect.Method;
import java.lang.reflect.Modifier;
import java.nio.file.Files;
import java.nio.file.Path;
import java.util.ArrayList;
import java.util.HashMap;
import java.util.HashSet;
import java.util.List;
import java.util.Map;
import java.util.Set;
import java.util.TreeSet;
import javax.lang.model.element.Element;
import javax.lang.model.element.ExecutableElement;
import javax.lang.model.type.TypeKind;
import javax.lang.model.type.TypeMirror;
import javax.tools.JavaCompiler;
import javax.tools.JavaFileObject;
import javax.tools.StandardJavaFileManager;
import javax.tools.ToolProvider;

/**
 * Whether the program keeps to the rules of ../shared/LANGUAGE.md that can be told from its tree, and shows the
 * face of the document and no more. Argument: the source file.
 */
final class Language extends TreePathScanner<Void, Void> {
    private static final int LINES_MOST = 60;
    private static final int PARAMETERS_MOST = 7;
    private static final int CLASSES_MOST = 12;
    private static final int FIELDS_MOST = 20;
    private static final int DEPTH_MOST = 8;
    private static final Set<String> LIBRARY = Set.of("Math.min", "Math.max", "Math.abs", "Math.floorMod",
            "Integer.bitCount", "Long.bitCount", "System.arraycopy", "Arrays.fill", "String.length", "String.charAt");
    private static final Set<Tree.Kind> BANNED = Set.of(Tree.Kind.THROW, Tree.Kind.TRY, Tree.Kind.CATCH,
            Tree.Kind.SYNCHRONIZED, Tree.Kind.ASSERT, Tree.Kind.LAMBDA_EXPRESSION, Tree.Kind.MEMBER_REFERENCE);
    private static final String[] FACE = {"int feed(int,int,int,int,int)", "boolean end(int)", "int sky()",
        "int fault(int)", "int has(int)", "int letter(int,int)", "int named()", "int body(int,int)",
        "int spot(int,int,int)", "int far(int,int,int)", "int lean(int,int,int)", "int sieve(int,int)",
        "int window(int,int,int)", "int times(int,int,int)", "int closest(int,int,int)", "int box(int,int,int,int)",
        "int apart(int,int,int,int)", "int passes(int,int)", "int pass(int,int,int,int)", "int list(int,int)",
        "int next(int)", "int threats(int)", "int group(int)", "int chances(int,int,int,int)", "int margin(int,int)",
        "int watch(int,int)", "int remains(int,int)", "int crowd(int)", "int crowded(int)", "int kept(int,int)",
        "int doom(int)", "int stays(int)", "int odds(int,int)", "int saves(int,int)", "int tries(int,int,int)",
        "int clears(int,int)", "int clearing(int)", "int twice(int,int)", "int room(int,int)", "int see(int)",
        "int fits(int)", "int tells(int)", "int burn(int,int,int)", "boolean up(int,boolean)", "boolean gap(int)",
        "int ticks(int)", "int chance(int)", "boolean undo()", "boolean seed(int)", "int image()", "int octet(int)",
        "boolean on()", "int status(int)"};

    private final Trees trees;
    private final CompilationUnitTree unit;
    private final Map<Element, Set<Element>> calls = new HashMap<>();
    private final List<String> wrong = new ArrayList<>();
    private Element method;
    private int classes;

    private Language(Trees trees, CompilationUnitTree unit) {
        this.trees = trees;
        this.unit = unit;
    }

    public static void main(String[] args) throws Exception {
        File file = new File(args[0]);
        JavaCompiler compiler = ToolProvider.getSystemJavaCompiler();
        List<String> wrong = new ArrayList<>();
        try (StandardJavaFileManager manager = compiler.getStandardFileManager(null, null, null)) {
            Iterable<? extends JavaFileObject> files = manager.getJavaFileObjects(file);
            JavacTask task = (JavacTask) compiler.getTask(null, manager, null, List.of("-proc:none"), null, files);
            CompilationUnitTree unit = task.parse().iterator().next();
            task.analyze();
            Language language = new Language(Trees.instance(task), unit);
            language.scan(unit, null);
            language.checkDepth();
            wrong.addAll(language.wrong);
        }
        checkFace(wrong);
        for (char sign : Files.readString(Path.of(args[0])).toCharArray()) {
            if (sign > 126 || sign < 32 && sign != '\n') {
                wrong.add("a sign " + (int) sign);
            }
        }
        wrong.forEach(System.out::println);
        System.out.println(wrong.isEmpty() ? "the rules are kept" : wrong.size() + " times a rule is not kept");
        System.exit(wrong.isEmpty() ? 0 : 1);
    }

    private static void checkFace(List<String> wrong) {
        Set<String> due = new TreeSet<>(List.of(FACE));
        Set<String> names = new HashSet<>();
        due.forEach(one -> names.add(one.substring(one.indexOf(' ') + 1, one.indexOf('('))));
        for (Method method : PassScreener.class.getDeclaredMethods()) {
            List<String> types = new ArrayList<>();
            for (Class<?> type : method.getParameterTypes()) {
                types.add(type.getName());
            }
            String one = method.getReturnType() + " " + method.getName() + "(" + String.join(",", types) + ")";
            boolean isPublic = Modifier.isPublic(method.getModifiers());
            if (isPublic && !due.remove(one)) {
                wrong.add("rule 1: not of the face: " + one);
            }
            if (!isPublic && (!Modifier.isPrivate(method.getModifiers()) || names.contains(method.getName()))) {
                wrong.add("rule 1: " + one);
            }
        }
        due.forEach(one -> wrong.add("rule 1: missing: " + one));
        for (Class<?> inside : PassScreener.class.getDeclaredClasses()) {
            if (!Modifier.isStatic(inside.getModifiers())) {
                wrong.add("rule 2: " + inside);
            }
            for (Method method : inside.getDeclaredMethods()) {
                if (names.contains(method.getName())) {
                    wrong.add("rule 1: " + method);
                }
            }
        }
        int fields = PassScreener.class.getFields().length;
        if (fields != 2 || PassScreener.class.getConstructors().length != 1
                || !Modifier.isFinal(PassScreener.class.getModifiers())) {
            wrong.add("rule 1: constants, constructors, final");
        }
    }

    private void note(Tree at, String what) {
        long position = trees.getSourcePositions().getStartPosition(unit, at);
        wrong.add("line " + unit.getLineMap().getLineNumber(position) + ": " + what);
    }

    private long lines(Tree tree) {
        long from = unit.getLineMap().getLineNumber(trees.getSourcePositions().getStartPosition(unit, tree));
        long to = unit.getLineMap().getLineNumber(trees.getSourcePositions().getEndPosition(unit, tree));
        return to - from + 1;
    }

    @Override
    public Void scan(Tree tree, Void nothing) {
        if (tree != null && BANNED.contains(tree.getKind())) {
            note(tree, "rule 2 or 6: " + tree.getKind());
        }
        return super.scan(tree, nothing);
    }

    @Override
    public Void visitImport(ImportTree tree, Void nothing) {
        if (!tree.getQualifiedIdentifier().toString().equals("java.util.Arrays")) {
            note(tree, "rule 4: " + tree);
        }
        return super.visitImport(tree, nothing);
    }

    @Override
    public Void visitClass(ClassTree tree, Void nothing) {
        classes++;
        if (classes > CLASSES_MOST) {
            note(tree, "rule 11: classes");
        }
        int fields = 0;
        for (Tree member : tree.getMembers()) {
            if (member.getKind() == Tree.Kind.BLOCK) {
                note(member, "rule 5: a block");
            }
            if (member instanceof VariableTree field) {
                Set<javax.lang.model.element.Modifier> flags = field.getModifiers().getFlags();
                boolean isStatic = flags.contains(javax.lang.model.element.Modifier.STATIC);
                if (isStatic && !flags.contains(javax.lang.model.element.Modifier.FINAL)) {
                    note(field, "rule 5: a static field that can change");
                }
                fields += isStatic ? 0 : 1;
            }
        }
        if (fields > FIELDS_MOST) {
            note(tree, "rule 11: " + fields + " fields");
        }
        return super.visitClass(tree, nothing);
    }

    @Override
    public Void visitMethod(MethodTree tree, Void nothing) {
        Element outer = method;
        method = trees.getElement(getCurrentPath());
        calls.computeIfAbsent(method, key -> new HashSet<>());
        if (tree.getParameters().size() > PARAMETERS_MOST) {
            note(tree, "rule 11: parameters of " + tree.getName());
        }
        if (lines(tree) > LINES_MOST) {
            note(tree, "rule 11: lines of " + tree.getName());
        }
        super.visitMethod(tree, nothing);
        method = outer;
        return null;
    }

    @Override
    public Void visitMethodInvocation(MethodInvocationTree tree, Void nothing) {
        Element called = trees.getElement(new TreePath(getCurrentPath(), tree.getMethodSelect()));
        noteCall(tree, (ExecutableElement) called);
        return super.visitMethodInvocation(tree, nothing);
    }

    private void noteCall(Tree tree, ExecutableElement called) {
        String owner = called.getEnclosingElement().getSimpleName().toString();
        if (called.getEnclosingElement().toString().startsWith("PassScreener")) {
            calls.computeIfAbsent(method, key -> new HashSet<>()).add(called);
        } else if (!LIBRARY.contains(owner + "." + called.getSimpleName()) && !called.toString().equals("Object()")) {
            note(tree, "rule 4: " + owner + "." + called.getSimpleName());
        }
    }

    @Override
    public Void visitNewClass(NewClassTree tree, Void nothing) {
        if (method != null && !method.getSimpleName().contentEquals("<init>")) {
            note(tree, "a call makes an object");
        }
        return super.visitNewClass(tree, nothing);
    }

    @Override
    public Void visitNewArray(com.sun.source.tree.NewArrayTree tree, Void nothing) {
        if (method != null && !method.getSimpleName().contentEquals("<init>")) {
            note(tree, "a call makes an array");
        }
        return super.visitNewArray(tree, nothing);
    }

    @Override
    public Void visitArrayType(ArrayTypeTree tree, Void nothing) {
        if (tree.getType() instanceof ArrayTypeTree inner && inner.getType().getKind() != Tree.Kind.PRIMITIVE_TYPE) {
            note(tree, "rule 3: dimensions");
        }
        return super.visitArrayType(tree, nothing);
    }

    @Override
    public Void visitBinary(BinaryTree tree, Void nothing) {
        TypeMirror type = trees.getTypeMirror(getCurrentPath());
        if (type != null && type.getKind() == TypeKind.DECLARED) {
            note(tree, "rule 10: texts joined by +");
        }
        return super.visitBinary(tree, nothing);
    }

    @Override
    public Void visitMemberSelect(MemberSelectTree tree, Void nothing) {
        if (tree.toString().matches("(Integer|Long|Math)\\.[A-Z_]+")) {
            note(tree, "rule 4: " + tree);
        }
        return super.visitMemberSelect(tree, nothing);
    }

    private void checkDepth() {
        Map<Element, Integer> depths = new HashMap<>();
        int deepest = 0;
        for (Element one : calls.keySet()) {
            deepest = Math.max(deepest, depth(one, depths, new HashSet<>()));
        }
        System.out.println("calls go " + deepest + " deep");
        if (deepest > DEPTH_MOST) {
            depths.forEach((one, depth) -> {
                if (depth > DEPTH_MOST) {
                    wrong.add("rule 11: " + one + " goes " + depth + " deep");
                }
            });
        }
    }

    private int depth(Element one, Map<Element, Integer> depths, Set<Element> open) {
        Integer known = depths.get(one);
        if (known != null) {
            return known;
        }
        if (!open.add(one)) {
            wrong.add("rule 8: " + one + " calls itself");
            return 0;
        }
        int deepest = 0;
        for (Element called : calls.getOrDefault(one, Set.of())) {
            deepest = Math.max(deepest, depth(called, depths, open));
        }
        open.remove(one);
        depths.put(one, deepest + 1);
        return deepest + 1;
    }
}
