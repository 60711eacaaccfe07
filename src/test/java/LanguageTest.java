import com.sun.source.tree.AssertTree;
import com.sun.source.tree.BinaryTree;
import com.sun.source.tree.CatchTree;
import com.sun.source.tree.ClassTree;
import com.sun.source.tree.CompilationUnitTree;
import com.sun.source.tree.ImportTree;
import com.sun.source.tree.InstanceOfTree;
import com.sun.source.tree.LambdaExpressionTree;
import com.sun.source.tree.LiteralTree;
import com.sun.source.tree.MemberReferenceTree;
import com.sun.source.tree.MemberSelectTree;
import com.sun.source.tree.MethodInvocationTree;
import com.sun.source.tree.MethodTree;
import com.sun.source.tree.NewArrayTree;
import com.sun.source.tree.NewClassTree;
import com.sun.source.tree.SynchronizedTree;
import com.sun.source.tree.ThrowTree;
import com.sun.source.tree.Tree;
import com.sun.source.tree.TryTree;
import com.sun.source.tree.VariableTree;
import com.sun.source.tree.WhileLoopTree;
import com.sun.source.util.JavacTask;
import com.sun.source.util.SourcePositions;
import com.sun.source.util.TreeScanner;
import com.sun.source.util.Trees;
import java.lang.reflect.Member;
import java.lang.reflect.Method;
import java.lang.reflect.Modifier;
import java.io.File;
import java.util.ArrayList;
import java.util.Arrays;
import java.util.List;
import java.util.Set;
import java.util.TreeSet;
import javax.tools.JavaCompiler;
import javax.tools.StandardJavaFileManager;
import javax.tools.ToolProvider;

/** The face of the class, and those rules of ../shared/LANGUAGE.md that can be read off the source. */
public final class LanguageTest {
    private static final String SOURCE = "src/main/java/HourglassTag.java";
    private static final String[] FACE = {
        "public int HourglassTag.height(int,int) throws IndexOutOfBoundsException,IllegalArgumentException",
        "public int HourglassTag.player(int,int) throws IndexOutOfBoundsException,IllegalArgumentException,"
            + "IllegalStateException",
        "public int HourglassTag.set(int,int) throws IndexOutOfBoundsException,IllegalArgumentException",
        "public int HourglassTag.rest() throws IllegalStateException",
        "public int HourglassTag.stride(int) throws IndexOutOfBoundsException,IllegalStateException",
        "public int HourglassTag.turnOver() throws IllegalStateException",
        "public int HourglassTag.tag(int) throws IndexOutOfBoundsException,IllegalStateException",
        "public int HourglassTag.append(int) throws IllegalArgumentException,IllegalStateException",
        "public int HourglassTag.clearBuffer()",
        "public int HourglassTag.firstError()",
        "public int HourglassTag.run() throws IllegalArgumentException",
        "public int HourglassTag.keep(int) throws IllegalArgumentException",
        "public int HourglassTag.goBack(int) throws IllegalArgumentException,IllegalStateException",
        "public int HourglassTag.undo() throws IllegalStateException",
        "public int HourglassTag.tower(int,int) throws IndexOutOfBoundsException,IllegalArgumentException",
        "public int HourglassTag.playerOf(int,int) throws IndexOutOfBoundsException,IllegalArgumentException",
        "public int HourglassTag.count(int) throws IllegalArgumentException",
        "public int HourglassTag.setting(int) throws IndexOutOfBoundsException",
        "public int HourglassTag.price(int,int,int) throws IndexOutOfBoundsException,IllegalArgumentException",
        "public int HourglassTag.whyNot(int,int) throws IndexOutOfBoundsException",
        "public int HourglassTag.movesTo(int,int) throws IndexOutOfBoundsException",
        "public int HourglassTag.prey()",
        "public int HourglassTag.lookout()",
        "public double HourglassTag.belowShare()",
        "public long HourglassTag.digest()",
    };
    private static final Set<String> LIBRARY = Set.of(
        "System.arraycopy", "Math.max", "Math.min", "Math.abs", "Integer.bitCount");
    private static final Set<String> EXCEPTIONS = Set.of(
        "IllegalStateException", "IllegalArgumentException", "IndexOutOfBoundsException");

    private static final Check CHECK = new Check();

    private LanguageTest() {
    }

    public static void main(String[] args) throws Exception {
        face();
        source();
        CHECK.end();
    }

    // rule 1
    private static void face() {
        Set<String> due = new TreeSet<>(Arrays.asList(FACE));
        Set<String> got = new TreeSet<>();
        for (Method method : HourglassTag.class.getDeclaredMethods()) {
            if (!Modifier.isPrivate(method.getModifiers())) {
                got.add(method.toGenericString().replace("java.lang.", ""));
            }
        }
        for (String method : due) {
            CHECK.holds("face has " + method, got.contains(method));
        }
        got.removeAll(due);
        CHECK.holds("no other method is open: " + got, got.isEmpty());
        List<Member> open = new ArrayList<>();
        for (Member field : HourglassTag.class.getDeclaredFields()) {
            if (!Modifier.isPrivate(field.getModifiers())) {
                open.add(field);
            }
        }
        CHECK.same("open fields", open.size(), 1);
        CHECK.holds("NONE is open", open.toString().equals("[public static final int HourglassTag.NONE]"));
        CHECK.same("constructors", HourglassTag.class.getDeclaredConstructors().length, 1);
        CHECK.same("open constructors", HourglassTag.class.getConstructors().length, 1);
        CHECK.holds("final", Modifier.isFinal(HourglassTag.class.getModifiers()));
        CHECK.same("interfaces", HourglassTag.class.getInterfaces().length, 0);
    }

    private static void source() throws Exception {
        JavaCompiler compiler = ToolProvider.getSystemJavaCompiler();
        StandardJavaFileManager files = compiler.getStandardFileManager(null, null, null);
        JavacTask task = (JavacTask) compiler.getTask(
            null, files, null, List.of("-proc:none"), null, files.getJavaFileObjects(new File(SOURCE)));
        SourcePositions places = Trees.instance(task).getSourcePositions();
        for (CompilationUnitTree unit : task.parse()) {
            CHECK.holds("no package", unit.getPackageName() == null);
            CHECK.same("classes of the file", unit.getTypeDecls().size(), 1);
            Rules rules = new Rules(unit, places);
            rules.scan(unit, null);
            CHECK.holds("some twelve classes", rules.classes <= 12);
        }
    }

    private static final class Rules extends TreeScanner<Void, Void> {
        private final CompilationUnitTree unit;
        private final SourcePositions places;
        private final Set<String> faceNames = new TreeSet<>();
        private int classes = 0;
        private String method = "";

        Rules(CompilationUnitTree unit, SourcePositions places) {
            this.unit = unit;
            this.places = places;
            for (String signature : FACE) {
                faceNames.add(signature.replaceAll(".*HourglassTag\\.(\\w+)\\(.*", "$1"));
            }
        }

        private long line(long position) {
            return unit.getLineMap().getLineNumber(position);
        }

        private void not(String what, Tree tree) {
            CHECK.tell("line " + line(places.getStartPosition(unit, tree)) + ": " + what);
        }

        @Override
        public Void visitClass(ClassTree tree, Void none) {
            classes++;
            method = "";
            long fields = 0;
            for (Tree member : tree.getMembers()) {
                if (member instanceof VariableTree field) {
                    boolean fixed = field.getModifiers().getFlags().contains(javax.lang.model.element.Modifier.STATIC);
                    fields += fixed ? 0 : 1;
                    boolean last = field.getModifiers().getFlags().contains(javax.lang.model.element.Modifier.FINAL);
                    CHECK.holds("static " + field.getName() + " is final", !fixed || last);
                }
                CHECK.holds("no initialiser block", member.getKind() != Tree.Kind.BLOCK);
            }
            CHECK.holds("some twenty fields in " + tree.getSimpleName(), fields <= 20);
            return super.visitClass(tree, none);
        }

        @Override
        public Void visitMethod(MethodTree tree, Void none) {
            method = tree.getName().toString();
            Set<javax.lang.model.element.Modifier> flags = tree.getModifiers().getFlags();
            boolean open = flags.contains(javax.lang.model.element.Modifier.PUBLIC);
            CHECK.holds(method + " bears no name of the face", open || !faceNames.contains(method));
            CHECK.holds(method + " takes at most seven", tree.getParameters().size() <= 7);
            long lines = line(places.getEndPosition(unit, tree)) - line(places.getStartPosition(unit, tree)) + 1;
            CHECK.holds(method + " is short", lines <= 60);
            super.visitMethod(tree, none);
            method = "";
            return null;
        }

        @Override
        public Void visitMethodInvocation(MethodInvocationTree tree, Void none) {
            if (tree.getMethodSelect() instanceof MemberSelectTree select) {
                String called = select.toString();
                if (Character.isUpperCase(called.charAt(0))) {
                    CHECK.holds(called + " is listed", LIBRARY.contains(called));
                }
            }
            return super.visitMethodInvocation(tree, none);
        }

        @Override
        public Void visitThrow(ThrowTree tree, Void none) {
            boolean plain = tree.getExpression() instanceof NewClassTree made
                && EXCEPTIONS.contains(made.getIdentifier().toString())
                && made.getArguments().stream().allMatch(LiteralTree.class::isInstance);
            CHECK.holds("throw new E(\"..\") in " + method, plain && !method.equals("<init>"));
            return super.visitThrow(tree, none);
        }

        @Override
        public Void visitLiteral(LiteralTree tree, Void none) {
            if (tree.getValue() instanceof String text) {
                CHECK.holds("signs 1 to 127", text.chars().allMatch(sign -> sign >= 1 && sign <= 127));
            }
            return super.visitLiteral(tree, none);
        }

        @Override
        public Void visitBinary(BinaryTree tree, Void none) {
            boolean divides = tree.getKind() == Tree.Kind.DIVIDE || tree.getKind() == Tree.Kind.REMAINDER;
            if (divides && !tree.getRightOperand().toString().matches("2|MOST_SAVED|\\(double\\)inGlasses")) {
                not("a divisor that nobody has looked at: " + tree, tree);
            }
            return super.visitBinary(tree, none);
        }

        @Override
        public Void visitImport(ImportTree tree, Void none) {
            not("an import", tree);
            return null;
        }

        @Override
        public Void visitTry(TryTree tree, Void none) {
            not("a try", tree);
            return super.visitTry(tree, none);
        }

        @Override
        public Void visitCatch(CatchTree tree, Void none) {
            not("a catch", tree);
            return super.visitCatch(tree, none);
        }

        @Override
        public Void visitLambdaExpression(LambdaExpressionTree tree, Void none) {
            not("a lambda", tree);
            return null;
        }

        @Override
        public Void visitMemberReference(MemberReferenceTree tree, Void none) {
            not("a method reference", tree);
            return null;
        }

        @Override
        public Void visitAssert(AssertTree tree, Void none) {
            not("an assert", tree);
            return null;
        }

        @Override
        public Void visitSynchronized(SynchronizedTree tree, Void none) {
            not("synchronized", tree);
            return null;
        }

        @Override
        public Void visitInstanceOf(InstanceOfTree tree, Void none) {
            not("an instanceof", tree);
            return null;
        }

        /** All loops but one count in their head; the one in run counts what is done. */
        @Override
        public Void visitWhileLoop(WhileLoopTree tree, Void none) {
            CHECK.holds("while only in run", method.equals("run"));
            return super.visitWhileLoop(tree, none);
        }

        @Override
        public Void visitNewClass(NewClassTree tree, Void none) {
            CHECK.holds("no anonymous class", tree.getClassBody() == null);
            boolean thrown = EXCEPTIONS.contains(tree.getIdentifier().toString());
            CHECK.holds("a call makes nothing new: " + tree, thrown || isBuilding());
            return super.visitNewClass(tree, none);
        }

        @Override
        public Void visitNewArray(NewArrayTree tree, Void none) {
            CHECK.holds("a call makes no new row: " + tree, isBuilding());
            return super.visitNewArray(tree, none);
        }

        /** In a field's initialiser, or in a constructor. */
        private boolean isBuilding() {
            return method.isEmpty() || method.equals("<init>");
        }
    }
}
