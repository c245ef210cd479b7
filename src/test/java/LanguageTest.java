import com.sun.source.tree.AssertTree;
import com.sun.source.tree.BinaryTree;
import com.sun.source.tree.ClassTree;
import com.sun.source.tree.CompilationUnitTree;
import com.sun.source.tree.CompoundAssignmentTree;
import com.sun.source.tree.IdentifierTree;
import com.sun.source.tree.LambdaExpressionTree;
import com.sun.source.tree.MemberReferenceTree;
import com.sun.source.tree.MemberSelectTree;
import com.sun.source.tree.MethodInvocationTree;
import com.sun.source.tree.MethodTree;
import com.sun.source.tree.NewArrayTree;
import com.sun.source.tree.NewClassTree;
import com.sun.source.tree.SynchronizedTree;
import com.sun.source.tree.ThrowTree;
import com.sun.source.tree.Tree;
import com.sun.source.tree.TryTree;
import com.sun.source.tree.TypeCastTree;
import com.sun.source.tree.VariableTree;
import com.sun.source.util.JavacTask;
import com.sun.source.util.SourcePositions;
import com.sun.source.util.TreePath;
import com.sun.source.util.TreePathScanner;
import com.sun.source.util.Trees;
import java.io.File;
import java.io.IOException;
import java.lang.reflect.Constructor;
import java.lang.reflect.Field;
import java.lang.reflect.Method;
import java.lang.reflect.Modifier;
import java.util.ArrayDeque;
import java.util.Deque;
import java.util.LinkedHashMap;
import java.util.LinkedHashSet;
import java.util.Map;
import java.util.Set;
import java.util.TreeSet;
import javax.lang.model.element.Element;
import javax.lang.model.element.ElementKind;
import javax.lang.model.element.TypeElement;
import javax.lang.model.type.TypeMirror;
import javax.tools.JavaCompiler;
import javax.tools.StandardJavaFileManager;
import javax.tools.ToolProvider;

/** What of LANGUAGE.md can be seen from the program's text, and the face that the document gives. */
public final class LanguageTest {
    private static final String PROGRAM = "src/main/java/InvoiceBook.java";
    private static final int MOST_LINES = 60;
    private static final int MOST_PARAMETERS = 7;
    private static final int MOST_FIELDS = 20;
    private static final int MOST_CLASSES = 12;
    private static final int MOST_DEEP = 8;
    /** What the program uses of the library; what else LANGUAGE.md lists is put here as it is used. */
    private static final Set<String> LIBRARY = Set.of("java.lang.Math", "java.lang.System");
    private static final Set<String> LIBRARY_CALLS = Set.of("Math.max", "Math.min", "System.arraycopy");
    private static final Set<String> CONSTANTS = Set.of("int", "long", "boolean", "char", "java.lang.String");
    private static final Set<String> CONSTANT_ARRAYS = Set.of("int[]", "long[]", "char[]", "byte[]");
    private static final Set<String> NOT_OF_OUR_OWN = Set.of("equals", "hashCode", "toString");
    private static final Set<String> FACE = Set.of(
        "bill(int,int,int,int)", "pay(int,int)", "payBill(int,int)", "payBack(int)", "pass(int)", "remind()",
        "writeOff(int)", "closeYear(int)", "set(int,int)", "type(char)", "clearText()", "perform()",
        "stopped(int)", "undo()", "keep()", "restore()", "billOf(int,int)", "customer(int,int)", "tax(int,int)",
        "reason(int)", "ifPaid(int,int,int)", "settles(int)", "nextReminder(int)", "worst()", "count(int)",
        "UNKNOWN", "BAD_VALUE", "FULL", "NOT_POSSIBLE", "NONE", "InvoiceBook()");

    private static int wrong;

    public static void main(String[] args) throws IOException {
        lookAtFace();
        JavaCompiler compiler = ToolProvider.getSystemJavaCompiler();
        try (StandardJavaFileManager files = compiler.getStandardFileManager(null, null, null)) {
            JavacTask task = (JavacTask) compiler.getTask(null, files, null, null, null,
                files.getJavaFileObjects(new File(PROGRAM)));
            CompilationUnitTree unit = task.parse().iterator().next();
            task.analyze();
            new Rules(unit, Trees.instance(task)).look();
        }
        System.out.println(wrong == 0 ? "the program keeps to its language" : wrong + " places are wrong");
        if (wrong != 0) {
            System.exit(1);
        }
    }

    private static void say(String what) {
        wrong++;
        System.out.println(what);
    }

    private static void lookAtFace() {
        Set<String> seen = new TreeSet<>();
        Set<String> privateMethods = new TreeSet<>();
        for (Method method : InvoiceBook.class.getDeclaredMethods()) {
            if (Modifier.isPrivate(method.getModifiers())) {
                privateMethods.add(method.getName());
            } else {
                seen.add(method.getName() + types(method.getParameterTypes()));
                expect(method.getName(), method.getModifiers() == Modifier.PUBLIC && method.getReturnType() == int.class);
            }
        }
        for (Constructor<?> constructor : InvoiceBook.class.getDeclaredConstructors()) {
            seen.add(constructor.getName() + types(constructor.getParameterTypes()));
            expect("the constructor", constructor.getModifiers() == Modifier.PUBLIC);
        }
        for (Field field : InvoiceBook.class.getDeclaredFields()) {
            if (!Modifier.isPrivate(field.getModifiers())) {
                seen.add(field.getName());
                expect(field.getName(), field.getModifiers() == (Modifier.PUBLIC | Modifier.STATIC | Modifier.FINAL)
                    && field.getType() == int.class);
            }
        }
        expect("the face " + seen, seen.equals(FACE));
        for (Method method : InvoiceBook.class.getMethods()) {
            expect("private method " + method.getName(), !privateMethods.contains(method.getName()));
        }
        expect("the class", InvoiceBook.class.getModifiers() == (Modifier.PUBLIC | Modifier.FINAL));
        expect("no superclass", InvoiceBook.class.getSuperclass() == Object.class);
        expect("no interface", InvoiceBook.class.getInterfaces().length == 0);
    }

    private static String types(Class<?>[] types) {
        StringBuilder names = new StringBuilder();
        for (Class<?> type : types) {
            names.append(names.length() == 0 ? "" : ",").append(type.getName());
        }
        return "(" + names + ")";
    }

    private static void expect(String what, boolean holds) {
        if (!holds) {
            say(what + " is not as the document says");
        }
    }

    /** Whom each method calls, those of the library too. */
    private static final class Calls {
        private final Map<Element, Set<Element>> called = new LinkedHashMap<>();
        private final Map<Element, Integer> depths = new LinkedHashMap<>();
        private final Deque<Element> open = new ArrayDeque<>();

        void add(Element caller, Element callee) {
            called.computeIfAbsent(caller, c -> new LinkedHashSet<>()).add(callee);
        }

        void look() {
            for (Element method : called.keySet()) {
                if (depth(method) > MOST_DEEP) {
                    say(method + " goes " + depth(method) + " calls deep");
                }
            }
        }

        private int depth(Element method) {
            if (open.contains(method)) {
                say(method + " calls itself");
                return 0;
            }
            Integer known = depths.get(method);
            if (known != null) {
                return known;
            }
            open.push(method);
            int deepest = 0;
            for (Element callee : called.getOrDefault(method, Set.of())) {
                deepest = Math.max(deepest, depth(callee));
            }
            open.pop();
            depths.put(method, deepest + 1);
            return deepest + 1;
        }
    }

    private static final class Rules extends TreePathScanner<Void, Void> {
        private final CompilationUnitTree unit;
        private final Trees trees;
        private final SourcePositions positions;
        private final Calls calls = new Calls();
        private MethodTree method;
        private Element caller;
        private int classes;

        Rules(CompilationUnitTree unit, Trees trees) {
            this.unit = unit;
            this.trees = trees;
            this.positions = trees.getSourcePositions();
        }

        void look() {
            if (unit.getPackageName() != null || !unit.getImports().isEmpty()) {
                LanguageTest.say("a package line or an import");
            }
            scan(new TreePath(unit), null);
            if (classes > MOST_CLASSES) {
                LanguageTest.say(classes + " classes");
            }
            calls.look();
        }

        private long line(long position) {
            return unit.getLineMap().getLineNumber(position);
        }

        private void say(Tree tree, String what) {
            LanguageTest.say("line " + line(positions.getStartPosition(unit, tree)) + ": " + what);
        }

        private static boolean has(Set<?> modifiers, String name) {
            return modifiers.stream().anyMatch(m -> m.toString().equals(name));
        }

        @Override
        public Void visitClass(ClassTree tree, Void none) {
            classes++;
            Set<?> modifiers = trees.getElement(getCurrentPath()).getModifiers();
            if (classes > 1 && (!has(modifiers, "static") || has(modifiers, "public") || has(modifiers, "protected"))) {
                say(tree, "a class inside that is not static, or can be seen");
            }
            int fields = 0;
            for (Tree member : tree.getMembers()) {
                if (member.getKind() == Tree.Kind.BLOCK) {
                    say(member, "an initialiser block");
                }
                if (member instanceof VariableTree field) {
                    fields += isConstant(field) ? 0 : 1;
                }
            }
            if (fields > MOST_FIELDS) {
                say(tree, fields + " fields");
            }
            return super.visitClass(tree, none);
        }

        private boolean isConstant(VariableTree field) {
            Element element = trees.getElement(new TreePath(getCurrentPath(), field));
            if (element.getKind() == ElementKind.ENUM_CONSTANT) {
                return true;
            }
            if (!has(element.getModifiers(), "static")) {
                return false;
            }
            String type = element.asType().toString();
            boolean writtenOut = CONSTANT_ARRAYS.contains(type) && field.getInitializer() instanceof NewArrayTree array
                && array.getInitializers() != null;
            if (!has(element.getModifiers(), "final") || !CONSTANTS.contains(type) && !writtenOut) {
                say(field, "a static field that is not a constant");
            }
            return true;
        }

        @Override
        public Void visitMethod(MethodTree tree, Void none) {
            long lines = line(positions.getEndPosition(unit, tree)) - line(positions.getStartPosition(unit, tree)) + 1;
            if (lines > MOST_LINES) {
                say(tree, lines + " lines");
            }
            if (tree.getParameters().size() > MOST_PARAMETERS) {
                say(tree, "too many parameters");
            }
            if (!tree.getThrows().isEmpty()) {
                say(tree, "throws");
            }
            if (NOT_OF_OUR_OWN.contains(tree.getName().toString())) {
                say(tree, "a method " + tree.getName());
            }
            method = tree;
            caller = trees.getElement(getCurrentPath());
            super.visitMethod(tree, none);
            method = null;
            caller = null;
            return null;
        }

        /** What a field starts with is made by the constructors, whose calls do not go deep. */
        private void call(Tree tree) {
            Element callee = trees.getElement(getCurrentPath());
            if (callee == null) {
                say(tree, "a call of something unknown");
            } else if (caller != null) {
                calls.add(caller, callee);
            }
        }

        @Override
        public Void visitMethodInvocation(MethodInvocationTree tree, Void none) {
            call(tree);
            return super.visitMethodInvocation(tree, none);
        }

        /** All calls share one room, so objects are made by constructors and fields alone. */
        private void lookAtNew(Tree tree) {
            if (method != null && !method.getName().contentEquals("<init>")) {
                say(tree, "an object is made in " + method.getName());
            }
        }

        @Override
        public Void visitNewClass(NewClassTree tree, Void none) {
            call(tree);
            lookAtNew(tree);
            if (tree.getClassBody() != null) {
                say(tree, "an anonymous class");
            }
            return super.visitNewClass(tree, none);
        }

        @Override
        public Void visitNewArray(NewArrayTree tree, Void none) {
            lookAtNew(tree);
            return super.visitNewArray(tree, none);
        }

        private void lookAtType(Tree tree) {
            if (trees.getElement(getCurrentPath()) instanceof TypeElement type) {
                String name = type.getQualifiedName().toString();
                if (!name.equals("InvoiceBook") && !name.startsWith("InvoiceBook.") && !LIBRARY.contains(name)) {
                    say(tree, "the library's " + name);
                }
            }
        }

        @Override
        public Void visitIdentifier(IdentifierTree tree, Void none) {
            lookAtType(tree);
            return super.visitIdentifier(tree, none);
        }

        @Override
        public Void visitMemberSelect(MemberSelectTree tree, Void none) {
            lookAtType(tree);
            if (trees.getElement(new TreePath(getCurrentPath(), tree.getExpression())) instanceof TypeElement type
                && LIBRARY.contains(type.getQualifiedName().toString()) && !LIBRARY_CALLS.contains(tree.toString())) {
                say(tree, "the library's " + tree);
            }
            return super.visitMemberSelect(tree, none);
        }

        private void lookAtText(Tree tree) {
            TypeMirror type = trees.getTypeMirror(getCurrentPath());
            if (type != null && type.toString().equals("java.lang.String")) {
                say(tree, "texts joined by +");
            }
        }

        @Override
        public Void visitBinary(BinaryTree tree, Void none) {
            lookAtText(tree);
            return super.visitBinary(tree, none);
        }

        @Override
        public Void visitCompoundAssignment(CompoundAssignmentTree tree, Void none) {
            lookAtText(tree);
            return super.visitCompoundAssignment(tree, none);
        }

        @Override
        public Void visitThrow(ThrowTree tree, Void none) {
            say(tree, "throw");
            return null;
        }

        @Override
        public Void visitTry(TryTree tree, Void none) {
            say(tree, "try");
            return null;
        }

        @Override
        public Void visitSynchronized(SynchronizedTree tree, Void none) {
            say(tree, "synchronized");
            return null;
        }

        @Override
        public Void visitAssert(AssertTree tree, Void none) {
            say(tree, "assert");
            return null;
        }

        @Override
        public Void visitLambdaExpression(LambdaExpressionTree tree, Void none) {
            say(tree, "a lambda");
            return null;
        }

        @Override
        public Void visitMemberReference(MemberReferenceTree tree, Void none) {
            say(tree, "a method reference");
            return null;
        }

        @Override
        public Void visitTypeCast(TypeCastTree tree, Void none) {
            say(tree, "a cast");
            return null;
        }
    }
}
