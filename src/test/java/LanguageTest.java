import com.sun.source.tree.*;
import com.sun.source.util.JavacTask;
import com.sun.source.util.SourcePositions;
import com.sun.source.util.TreePath;
import com.sun.source.util.TreePathScanner;
import com.sun.source.util.Trees;
import java.io.IOException;
import java.nio.file.Files;
import java.nio.file.Path;
import java.util.ArrayList;
import java.util.EnumSet;
import java.util.LinkedHashMap;
import java.util.LinkedHashSet;
import java.util.List;
import java.util.Map;
import java.util.Set;
import javax.lang.model.element.Element;
import javax.lang.model.element.ElementKind;
import javax.lang.model.element.ExecutableElement;
import javax.lang.model.element.Modifier;
import javax.lang.model.element.TypeElement;
import javax.lang.model.element.VariableElement;
import javax.lang.model.type.ArrayType;
import javax.lang.model.type.TypeKind;
import javax.lang.model.type.TypeMirror;
import javax.tools.JavaCompiler;
import javax.tools.StandardJavaFileManager;
import javax.tools.ToolProvider;

/**
 * The rules of LANGUAGE.md that can be seen in the text of the class: what it is made of, which library it calls, and
 * how long, wide and deep its methods are. Where a rule leaves more than the class needs, the test leaves less.
 */
public final class LanguageTest {
    private static final String FILE = "src/main/java/ShadowRoads.java";
    private static final int MOST_DEPTH = 8;
    private static final int MOST_LINES = 60;
    private static final int MOST_PARAMETERS = 7;
    private static final int MOST_CLASSES = 12;
    private static final int MOST_FIELDS = 20;
    private static final Set<String> LIBRARY = Set.of("java.lang.System.arraycopy", "java.util.Arrays.copyOf",
        "java.util.Arrays.fill", "java.lang.Math.min", "java.lang.Math.max", "java.lang.Object.<init>");
    private static final Set<Tree.Kind> RULED_OUT = EnumSet.of(Tree.Kind.THROW, Tree.Kind.TRY, Tree.Kind.CATCH,
        Tree.Kind.SYNCHRONIZED, Tree.Kind.ASSERT, Tree.Kind.LAMBDA_EXPRESSION, Tree.Kind.MEMBER_REFERENCE,
        Tree.Kind.INSTANCE_OF, Tree.Kind.TYPE_CAST, Tree.Kind.ANNOTATION, Tree.Kind.WHILE_LOOP,
        Tree.Kind.DO_WHILE_LOOP, Tree.Kind.SWITCH_EXPRESSION, Tree.Kind.DIVIDE, Tree.Kind.REMAINDER,
        Tree.Kind.DIVIDE_ASSIGNMENT, Tree.Kind.REMAINDER_ASSIGNMENT);
    private static int wrong = 0;

    private static void say(String what) {
        wrong++;
        System.out.println(what);
    }

    private static String nameOf(Element e) {
        return e.getEnclosingElement() + "." + e.getSimpleName();
    }

    private static boolean isOwn(Element e) {
        return e.toString().startsWith("ShadowRoads") || e.getEnclosingElement().toString().startsWith("ShadowRoads");
    }

    /** Looks at each tree of the file, and notes which method calls which. */
    private static final class Look extends TreePathScanner<Void, Void> {
        final Trees trees;
        final SourcePositions places;
        final CompilationUnitTree unit;
        final Map<String, Set<String>> calls = new LinkedHashMap<>();
        final List<String> open = new ArrayList<>();
        String inside = "";
        int classes;

        Look(Trees trees, CompilationUnitTree unit) {
            this.trees = trees;
            this.unit = unit;
            places = trees.getSourcePositions();
        }

        Element element() {
            return trees.getElement(getCurrentPath());
        }

        long lineOf(long place) {
            return unit.getLineMap().getLineNumber(place);
        }

        void fault(Tree tree, String what) {
            say("line " + lineOf(places.getStartPosition(unit, tree)) + ": " + what);
        }

        @Override
        public Void scan(Tree tree, Void none) {
            if (tree != null && RULED_OUT.contains(tree.getKind())) {
                fault(tree, "ruled out: " + tree.getKind());
            }
            return super.scan(tree, none);
        }

        @Override
        public Void visitClass(ClassTree tree, Void none) {
            TypeElement type = (TypeElement) element();
            classes++;
            if (type.getEnclosingElement().getKind() == ElementKind.CLASS) {
                if (!type.getModifiers().contains(Modifier.STATIC) || !type.getModifiers().contains(Modifier.PRIVATE)) {
                    fault(tree, "a class inside isn't private and static");
                }
            } else if (!type.getQualifiedName().contentEquals("ShadowRoads")) {
                fault(tree, "a class that isn't inside ShadowRoads");
            }
            int fields = 0;
            for (Tree member : tree.getMembers()) {
                if (member instanceof BlockTree) {
                    fault(member, "a block that makes ready");
                }
                if (member instanceof VariableTree v && !v.getModifiers().getFlags().contains(Modifier.STATIC)) {
                    fields++;
                }
            }
            if (fields > MOST_FIELDS) {
                fault(tree, fields + " fields");
            }
            return super.visitClass(tree, none);
        }

        @Override
        public Void visitMethod(MethodTree tree, Void none) {
            ExecutableElement method = (ExecutableElement) element();
            String before = inside;
            inside = nameOf(method);
            if (calls.put(inside, new LinkedHashSet<>()) != null) {
                fault(tree, "two methods of one name: " + inside);
            }
            if (method.getModifiers().contains(Modifier.PUBLIC)) {
                open.add(inside);
            }
            if (tree.getParameters().size() > MOST_PARAMETERS) {
                fault(tree, tree.getParameters().size() + " parameters");
            }
            long lines = lineOf(places.getEndPosition(unit, tree)) - lineOf(places.getStartPosition(unit, tree)) + 1;
            if (lines > MOST_LINES) {
                fault(tree, lines + " lines");
            }
            super.visitMethod(tree, none);
            inside = before;
            return null;
        }

        @Override
        public Void visitMethodInvocation(MethodInvocationTree tree, Void none) {
            note(tree, trees.getElement(new TreePath(getCurrentPath(), tree.getMethodSelect())));
            return super.visitMethodInvocation(tree, none);
        }

        @Override
        public Void visitNewClass(NewClassTree tree, Void none) {
            if (tree.getClassBody() != null) {
                fault(tree, "a class without a name");
            }
            note(tree, element());
            return super.visitNewClass(tree, none);
        }

        void note(Tree tree, Element called) {
            String name = nameOf(called);
            if (!isOwn(called) && !LIBRARY.contains(name)) {
                fault(tree, "not of the library: " + name);
            }
            if (calls.containsKey(inside)) {
                calls.get(inside).add(name);
            }
        }

        @Override
        public Void visitVariable(VariableTree tree, Void none) {
            VariableElement v = (VariableElement) element();
            if (!isLeft(v.asType())) {
                fault(tree, "a type that isn't left: " + v.asType());
            }
            boolean isConstant = v.getModifiers().contains(Modifier.FINAL) && v.getConstantValue() != null;
            if (v.getModifiers().contains(Modifier.STATIC) && !isConstant) {
                fault(tree, "static and no constant: " + v);
            }
            return super.visitVariable(tree, none);
        }

        /** int and boolean, arrays of one dimension of int and of own classes, own classes. */
        boolean isLeft(TypeMirror type) {
            if (type instanceof ArrayType array) {
                TypeMirror part = array.getComponentType();
                return part.getKind() != TypeKind.ARRAY && isLeft(part);
            }
            TypeKind kind = type.getKind();
            return kind == TypeKind.INT || kind == TypeKind.BOOLEAN || type.toString().startsWith("ShadowRoads");
        }

        @Override
        public Void visitForLoop(ForLoopTree tree, Void none) {
            if (tree.getCondition() == null || tree.getInitializer().isEmpty() || tree.getUpdate().isEmpty()) {
                fault(tree, "a loop without a counter and a bound");
            }
            return super.visitForLoop(tree, none);
        }
    }

    /** How many methods stand open at most, this one counted; the library's own count one. */
    private static int depth(Map<String, Set<String>> calls, String method, List<String> above) {
        if (above.contains(method)) {
            say("recursion: " + above + " " + method);
            return 0;
        }
        above.add(method);
        int deepest = 0;
        for (String called : calls.getOrDefault(method, Set.of())) {
            deepest = Math.max(deepest, depth(calls, called, above));
        }
        above.remove(above.size() - 1);
        return deepest + 1;
    }

    private static Look look() throws IOException {
        JavaCompiler compiler = ToolProvider.getSystemJavaCompiler();
        try (StandardJavaFileManager files = compiler.getStandardFileManager(null, null, null)) {
            List<String> options = List.of("--release", "17", "-proc:none");
            JavacTask task = (JavacTask) compiler.getTask(null, files, null, options, null, files.getJavaFileObjects(FILE));
            CompilationUnitTree unit = task.parse().iterator().next();
            task.analyze();
            Look look = new Look(Trees.instance(task), unit);
            look.scan(unit, null);
            return look;
        }
    }

    public static void main(String[] args) throws IOException {
        Look look = look();
        if (look.classes > MOST_CLASSES) {
            say(look.classes + " classes");
        }
        if (look.open.size() != 24) {
            say(look.open.size() + " public methods and constructors were found");
        }
        for (String method : look.open) {
            int depth = depth(look.calls, method, new ArrayList<>());
            if (depth > MOST_DEPTH) {
                say(method + " goes " + depth + " deep");
            }
            if (args.length > 0) {
                System.out.println(method + " " + depth);
            }
        }
        for (char c : Files.readString(Path.of(FILE)).toCharArray()) {
            if (c > 255) {
                say("a character above 255: " + c);
            }
        }
        System.out.println(wrong == 0 ? "the rules of the language are kept" : wrong + " faults of the language");
        if (wrong != 0) {
            System.exit(1);
        }
    }
}
