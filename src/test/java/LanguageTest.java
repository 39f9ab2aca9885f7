import com.sun.source.tree.*;
import com.sun.source.util.JavacTask;
import com.sun.source.util.SourcePositions;
import com.sun.source.util.TreePath;
import com.sun.source.util.TreePathScanner;
import com.sun.source.util.Trees;
import java.io.IOException;
import java.nio.file.Path;
import java.util.HashMap;
import java.util.HashSet;
import java.util.List;
import java.util.Map;
import java.util.Set;
import java.util.TreeSet;
import javax.lang.model.element.Element;
import javax.lang.model.element.ElementKind;
import javax.lang.model.element.Modifier;
import javax.lang.model.type.TypeMirror;
import javax.tools.JavaCompiler;
import javax.tools.StandardJavaFileManager;
import javax.tools.ToolProvider;

/**
 * What javac reads in WeaveDesk.java, held against the rules of LANGUAGE.md that a program can look
 * at. The test is narrower than the rules: what the class does not use (lists, texts, try, recursion)
 * is refused here too, so that who begins to use it looks at its rule first.
 */
public final class LanguageTest {
    private static final Path SOURCE = Path.of("src/main/java/WeaveDesk.java");
    private static final int MOST_PARAMETERS = 7, MOST_LINES = 60, MOST_DEPTH = 8, MOST_CLASSES = 12, MOST_FIELDS = 20;

    private static final Set<String> IMPORTS = Set.of("java.util.NoSuchElementException");
    private static final Set<String> LIBRARY = Set.of("java.lang.Math.max(int,int)",
            "java.lang.System.arraycopy(java.lang.Object,int,java.lang.Object,int,int)");
    private static final Set<String> EXCEPTIONS = Set.of("IllegalStateException", "IllegalArgumentException",
            "IndexOutOfBoundsException", "ArithmeticException", "UnsupportedOperationException",
            "NoSuchElementException", "RuntimeException");
    private static final Set<String> PLAIN_TYPES = Set.of("int", "long", "boolean", "void");
    private static final Set<Tree.Kind> REFUSED = Set.of(Tree.Kind.LAMBDA_EXPRESSION, Tree.Kind.MEMBER_REFERENCE,
            Tree.Kind.TRY, Tree.Kind.SYNCHRONIZED, Tree.Kind.ASSERT, Tree.Kind.INSTANCE_OF, Tree.Kind.TYPE_CAST,
            Tree.Kind.INTERFACE, Tree.Kind.ENUM, Tree.Kind.RECORD, Tree.Kind.ANNOTATION, Tree.Kind.DIVIDE,
            Tree.Kind.REMAINDER, Tree.Kind.DOUBLE_LITERAL, Tree.Kind.FLOAT_LITERAL, Tree.Kind.SWITCH_EXPRESSION);

    private static final Set<String> wrong = new TreeSet<>();
    private static final Map<String, Set<String>> callsOf = new HashMap<>();
    private static int classes = 0;
    private static int methods = 0;

    public static void main(String[] args) throws IOException {
        JavaCompiler compiler = ToolProvider.getSystemJavaCompiler();
        try (StandardJavaFileManager files = compiler.getStandardFileManager(null, null, null)) {
            JavacTask task = (JavacTask) compiler.getTask(null, files, null, List.of("--release", "17", "-proc:none"),
                    null, files.getJavaFileObjects(SOURCE));
            CompilationUnitTree unit = task.parse().iterator().next();
            task.analyze();
            lookAtFile(unit);
            new Reader(Trees.instance(task), unit).scan(unit, null);
        }
        refuseIf(classes > MOST_CLASSES, "11: " + classes + " classes");
        for (String method : callsOf.keySet()) {
            refuseIf(depthOf(method, new HashSet<>()) > MOST_DEPTH, "8, 11: " + method + " goes too deep");
        }
        wrong.forEach(line -> System.out.println("rule " + line));
        System.out.println(classes + " classes, " + methods + " methods, " + wrong.size() + " things not as due");
        if (!wrong.isEmpty() || methods == 0) {
            System.exit(1);
        }
    }

    private static void refuseIf(boolean isWrong, String line) {
        if (isWrong) {
            wrong.add(line);
        }
    }

    private static void lookAtFile(CompilationUnitTree unit) {
        refuseIf(unit.getPackageName() != null, "1: a package line");
        refuseIf(unit.getTypeDecls().size() != 1, "1: more than one class beside another");
        for (ImportTree line : unit.getImports()) {
            refuseIf(line.isStatic() || !IMPORTS.contains(line.getQualifiedIdentifier().toString()), "4: " + line);
        }
    }

    /** How many calls stand open at once; far too many if a method comes back to itself. */
    private static int depthOf(String method, Set<String> open) {
        if (!open.add(method)) {
            return MOST_DEPTH + 1;
        }
        int depth = 0;
        for (String called : callsOf.getOrDefault(method, Set.of())) {
            depth = Math.max(depth, depthOf(called, open));
        }
        open.remove(method);
        return depth + 1;
    }

    private static final class Reader extends TreePathScanner<Void, Void> {
        private final Trees trees;
        private final CompilationUnitTree unit;
        private final Set<String> faceNames = new HashSet<>();
        private String method = "none";

        Reader(Trees trees, CompilationUnitTree unit) {
            this.trees = trees;
            this.unit = unit;
        }

        @Override
        public Void scan(Tree tree, Void none) {
            if (tree != null) {
                refuseIf(REFUSED.contains(tree.getKind()), "2, 3, 6, 7: " + tree.getKind() + " in " + method);
            }
            return super.scan(tree, none);
        }

        @Override
        public Void visitClass(ClassTree tree, Void none) {
            classes++;
            boolean isFace = getCurrentPath().getParentPath().getLeaf() instanceof CompilationUnitTree;
            Set<Modifier> modifiers = tree.getModifiers().getFlags();
            if (isFace) {
                tree.getMembers().forEach(this::keepFaceName);
            } else {
                refuseIf(!modifiers.contains(Modifier.STATIC) || modifiers.contains(Modifier.PUBLIC)
                        || modifiers.contains(Modifier.PROTECTED), "1, 2: class " + tree.getSimpleName());
            }
            refuseIf(tree.getExtendsClause() != null, "2: " + tree.getSimpleName() + " extends a class");
            refuseIf(tree.getMembers().stream().anyMatch(m -> m instanceof BlockTree), "5: a block beside methods");
            refuseIf(tree.getMembers().stream().filter(LanguageTest::isInstanceField).count() > MOST_FIELDS,
                    "11: " + tree.getSimpleName() + " has too many fields");
            return super.visitClass(tree, none);
        }

        private void keepFaceName(Tree member) {
            if (member instanceof MethodTree m && m.getModifiers().getFlags().contains(Modifier.PUBLIC)) {
                faceNames.add(m.getName().toString());
            }
        }

        @Override
        public Void visitMethod(MethodTree tree, Void none) {
            methods++;
            Element element = trees.getElement(getCurrentPath());
            method = nameOf(element);
            refuseIf(tree.getParameters().size() > MOST_PARAMETERS, "11: parameters of " + method);
            refuseIf(linesOf(tree) > MOST_LINES, "11: lines of " + method);
            refuseIf(element.getKind() == ElementKind.METHOD && !element.getModifiers().contains(Modifier.PUBLIC)
                    && faceNames.contains(tree.getName().toString()), "1: " + method + " bears a public name");
            super.visitMethod(tree, none);
            method = "none";
            return null;
        }

        private long linesOf(MethodTree tree) {
            SourcePositions positions = trees.getSourcePositions();
            LineMap lines = unit.getLineMap();
            return lines.getLineNumber(positions.getEndPosition(unit, tree))
                    - lines.getLineNumber(positions.getStartPosition(unit, tree)) + 1;
        }

        @Override
        public Void visitVariable(VariableTree tree, Void none) {
            String type = tree.getType().toString();
            refuseIf(!isAllowed(type), "3: " + type + " " + tree.getName());
            Element element = trees.getElement(getCurrentPath());
            if (element.getKind() == ElementKind.FIELD && element.getModifiers().contains(Modifier.STATIC)) {
                refuseIf(!element.getModifiers().contains(Modifier.FINAL) || !type.equals("int"),
                        "5: static field " + tree.getName());
            }
            return super.visitVariable(tree, none);
        }

        /** The plain types, own classes and rows of these. */
        private boolean isAllowed(String type) {
            String one = type.endsWith("[]") ? type.substring(0, type.length() - 2) : type;
            return PLAIN_TYPES.contains(one) || ownClasses().contains(one);
        }

        private Set<String> ownClasses() {
            Set<String> names = new HashSet<>();
            for (Tree member : ((ClassTree) unit.getTypeDecls().get(0)).getMembers()) {
                if (member instanceof ClassTree inside) {
                    names.add(inside.getSimpleName().toString());
                }
            }
            return names;
        }

        @Override
        public Void visitMethodInvocation(MethodInvocationTree tree, Void none) {
            keepCall(trees.getElement(getCurrentPath()));
            return super.visitMethodInvocation(tree, none);
        }

        @Override
        public Void visitNewClass(NewClassTree tree, Void none) {
            refuseIf(tree.getClassBody() != null, "2: a class without a name in " + method);
            boolean isThrown = getCurrentPath().getParentPath().getLeaf() instanceof ThrowTree;
            if (!isThrown) {
                keepCall(trees.getElement(getCurrentPath()));
            }
            return super.visitNewClass(tree, none);
        }

        private void keepCall(Element called) {
            String name = nameOf(called);
            boolean isObjects = name.equals("java.lang.Object.Object()");
            refuseIf(!isObjects && !name.startsWith("WeaveDesk.") && !LIBRARY.contains(name), "4: a call of " + name);
            callsOf.computeIfAbsent(method, m -> new TreeSet<>()).add(name);
        }

        @Override
        public Void visitThrow(ThrowTree tree, Void none) {
            boolean isNew = tree.getExpression() instanceof NewClassTree made
                    && EXCEPTIONS.contains(made.getIdentifier().toString())
                    && made.getArguments().stream().allMatch(a -> a.getKind() == Tree.Kind.STRING_LITERAL);
            refuseIf(!isNew, "6: " + tree + " in " + method);
            TreePath path = getCurrentPath();
            while (!(path.getLeaf() instanceof MethodTree)) {
                path = path.getParentPath();
            }
            refuseIf(trees.getElement(path).getKind() == ElementKind.CONSTRUCTOR, "6: a throw in a constructor");
            return super.visitThrow(tree, none);
        }

        @Override
        public Void visitBinary(BinaryTree tree, Void none) {
            TypeMirror type = trees.getTypeMirror(getCurrentPath());
            refuseIf(!PLAIN_TYPES.contains(type.toString()), "10: " + tree + " is " + type);
            return super.visitBinary(tree, none);
        }

        private static String nameOf(Element element) {
            return element.getEnclosingElement() + "." + element;
        }
    }

    private static boolean isInstanceField(Tree member) {
        return member instanceof VariableTree field && !field.getModifiers().getFlags().contains(Modifier.STATIC);
    }
}
