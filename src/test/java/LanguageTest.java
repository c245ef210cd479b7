import com.sun.source.tree.AssertTree;
import com.sun.source.tree.ClassTree;
import com.sun.source.tree.CompilationUnitTree;
import com.sun.source.tree.LambdaExpressionTree;
import com.sun.source.tree.MemberReferenceTree;
import com.sun.source.tree.MemberSelectTree;
import com.sun.source.tree.MethodTree;
import com.sun.source.tree.NewArrayTree;
import com.sun.source.tree.NewClassTree;
import com.sun.source.tree.SynchronizedTree;
import com.sun.source.tree.ThrowTree;
import com.sun.source.tree.Tree;
import com.sun.source.tree.TryTree;
import com.sun.source.tree.TypeCastTree;
import com.sun.source.util.JavacTask;
import com.sun.source.util.SourcePositions;
import com.sun.source.util.TreeScanner;
import com.sun.source.util.Trees;
import java.io.File;
import java.io.IOException;
import java.lang.reflect.Constructor;
import java.lang.reflect.Field;
import java.lang.reflect.Method;
import java.lang.reflect.Modifier;
import java.util.List;
import java.util.Set;
import java.util.TreeSet;
import javax.tools.JavaCompiler;
import javax.tools.StandardJavaFileManager;
import javax.tools.ToolProvider;

/** What of LANGUAGE.md can be seen from the program's text, and the face that the document gives. */
public final class LanguageTest {
    private static final String PROGRAM = "src/main/java/InvoiceBook.java";
    private static final int MOST_LINES = 60;
    private static final int MOST_PARAMETERS = 7;
    private static final int MOST_FIELDS = 20;
    private static final int MOST_CLASSES = 12;
    private static final Set<String> LIBRARY = Set.of("Math", "System");
    private static final Set<String> LIBRARY_CALLS = Set.of("Math.max", "Math.min", "System.arraycopy");
    private static final Set<String> FACE = Set.of(
        "bill(int,int,int,int)", "pay(int,int)", "payBill(int,int)", "payBack(int)", "pass(int)", "remind()",
        "writeOff(int)", "closeYear(int)", "set(int,int)", "type(char)", "clearText()", "perform()",
        "stopped(int)", "undo()", "keep()", "restore()", "billOf(int,int)", "customer(int,int)", "tax(int,int)",
        "reason(int)", "ifPaid(int,int,int)", "settles(int)", "nextReminder(int)", "worst()", "count(int)",
        "UNKNOWN", "BAD_VALUE", "FULL", "NOT_POSSIBLE", "NONE", "InvoiceBook()");

    private static int wrong;

    public static void main(String[] args) throws IOException {
        lookAtFace();
        JavaCompiler compiler = ToolProvider.getSystemJavaCompiler();
        try (StandardJavaFileManager files = compiler.getStandardFileManager(null, null, null)) {
            JavacTask task = (JavacTask) compiler.getTask(null, files, null, null, null,
                files.getJavaFileObjects(new File(PROGRAM)));
            CompilationUnitTree unit = task.parse().iterator().next();
            new Rules(unit, Trees.instance(task).getSourcePositions()).look();
        }
        System.out.println(wrong == 0 ? "the program keeps to its language" : wrong + " places are wrong");
        if (wrong != 0) {
            System.exit(1);
        }
    }

    private static void say(String what) {
        wrong++;
        System.out.println(what);
    }

    private static void lookAtFace() {
        Set<String> seen = new TreeSet<>();
        Set<String> privateMethods = new TreeSet<>();
        for (Method method : InvoiceBook.class.getDeclaredMethods()) {
            if (Modifier.isPrivate(method.getModifiers())) {
                privateMethods.add(method.getName());
            } else {
                seen.add(method.getName() + types(method.getParameterTypes()));
                expect(method.getName(), method.getModifiers() == Modifier.PUBLIC && method.getReturnType() == int.class);
            }
        }
        for (Constructor<?> constructor : InvoiceBook.class.getDeclaredConstructors()) {
            seen.add(constructor.getName() + types(constructor.getParameterTypes()));
            expect("the constructor", constructor.getModifiers() == Modifier.PUBLIC);
        }
        for (Field field : InvoiceBook.class.getDeclaredFields()) {
            if (!Modifier.isPrivate(field.getModifiers())) {
                seen.add(field.getName());
                expect(field.getName(), field.getModifiers() == (Modifier.PUBLIC | Modifier.STATIC | Modifier.FINAL)
                    && field.getType() == int.class);
            }
        }
        expect("the face " + seen, seen.equals(FACE));
        for (Method method : InvoiceBook.class.getMethods()) {
            expect("private method " + method.getName(), !privateMethods.contains(method.getName()));
        }
        expect("the class", InvoiceBook.class.getModifiers() == (Modifier.PUBLIC | Modifier.FINAL));
        expect("no superclass", InvoiceBook.class.getSuperclass() == Object.class);
        expect("no interface", InvoiceBook.class.getInterfaces().length == 0);
    }

    private static String types(Class<?>[] types) {
        StringBuilder names = new StringBuilder();
        for (Class<?> type : types) {
            names.append(names.length() == 0 ? "" : ",").append(type.getName());
        }
        return "(" + names + ")";
    }

    private static void expect(String what, boolean holds) {
        if (!holds) {
            say(what + " is not as the document says");
        }
    }

    private static final class Rules extends TreeScanner<Void, Void> {
        private final CompilationUnitTree unit;
        private final SourcePositions positions;
        private String method;
        private int classes;

        Rules(CompilationUnitTree unit, SourcePositions positions) {
            this.unit = unit;
            this.positions = positions;
        }

        void look() {
            if (unit.getPackageName() != null || !unit.getImports().isEmpty()) {
                LanguageTest.say("a package line or an import");
            }
            scan(unit, null);
            if (classes > MOST_CLASSES) {
                LanguageTest.say(classes + " classes");
            }
        }

        private long line(long position) {
            return unit.getLineMap().getLineNumber(position);
        }

        private void say(Tree tree, String what) {
            LanguageTest.say("line " + line(positions.getStartPosition(unit, tree)) + ": " + what);
        }

        @Override
        public Void visitClass(ClassTree tree, Void none) {
            classes++;
            List<? extends Tree> members = tree.getMembers();
            long fields = members.stream().filter(m -> m.getKind() == Tree.Kind.VARIABLE
                && !m.toString().contains("static final")).count();
            if (fields > MOST_FIELDS) {
                say(tree, fields + " fields");
            }
            for (Tree member : members) {
                if (member.getKind() == Tree.Kind.VARIABLE && member.toString().contains("static ")
                    && !member.toString().contains("static final")) {
                    say(member, "a static field that is not final");
                }
                if (member.getKind() == Tree.Kind.BLOCK) {
                    say(member, "an initialiser block");
                }
            }
            return super.visitClass(tree, none);
        }

        @Override
        public Void visitMethod(MethodTree tree, Void none) {
            long lines = line(positions.getEndPosition(unit, tree)) - line(positions.getStartPosition(unit, tree)) + 1;
            if (lines > MOST_LINES) {
                say(tree, lines + " lines");
            }
            if (tree.getParameters().size() > MOST_PARAMETERS) {
                say(tree, "too many parameters");
            }
            if (!tree.getThrows().isEmpty()) {
                say(tree, "throws");
            }
            method = tree.getName().toString();
            super.visitMethod(tree, none);
            method = null;
            return null;
        }

        /** All calls share one room, so objects are made by constructors and fields alone. */
        private void lookAtNew(Tree tree) {
            if (method != null && !method.equals("<init>")) {
                say(tree, "an object is made in " + method);
            }
        }

        @Override
        public Void visitNewClass(NewClassTree tree, Void none) {
            lookAtNew(tree);
            if (tree.getClassBody() != null) {
                say(tree, "an anonymous class");
            }
            return super.visitNewClass(tree, none);
        }

        @Override
        public Void visitNewArray(NewArrayTree tree, Void none) {
            lookAtNew(tree);
            return super.visitNewArray(tree, none);
        }

        @Override
        public Void visitMemberSelect(MemberSelectTree tree, Void none) {
            if (LIBRARY.contains(tree.getExpression().toString()) && !LIBRARY_CALLS.contains(tree.toString())) {
                say(tree, "the library's " + tree);
            }
            return super.visitMemberSelect(tree, none);
        }

        @Override
        public Void visitThrow(ThrowTree tree, Void none) {
            say(tree, "throw");
            return null;
        }

        @Override
        public Void visitTry(TryTree tree, Void none) {
            say(tree, "try");
            return null;
        }

        @Override
        public Void visitSynchronized(SynchronizedTree tree, Void none) {
            say(tree, "synchronized");
            return null;
        }

        @Override
        public Void visitAssert(AssertTree tree, Void none) {
            say(tree, "assert");
            return null;
        }

        @Override
        public Void visitLambdaExpression(LambdaExpressionTree tree, Void none) {
            say(tree, "a lambda");
            return null;
        }

        @Override
        public Void visitMemberReference(MemberReferenceTree tree, Void none) {
            say(tree, "a method reference");
            return null;
        }

        @Override
        public Void visitTypeCast(TypeCastTree tree, Void none) {
            say(tree, "a cast");
            return null;
        }
    }
}
