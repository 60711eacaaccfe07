import com.sun.source.tree.ArrayAccessTree;
import com.sun.source.tree.AssertTree;
import com.sun.source.tree.AssignmentTree;
import com.sun.source.tree.BinaryTree;
import com.sun.source.tree.ClassTree;
import com.sun.source.tree.CompoundAssignmentTree;
import com.sun.source.tree.DoWhileLoopTree;
import com.sun.source.tree.ExpressionTree;
import com.sun.source.tree.ForLoopTree;
import com.sun.source.tree.IdentifierTree;
import com.sun.source.tree.ImportTree;
import com.sun.source.tree.InstanceOfTree;
import com.sun.source.tree.LambdaExpressionTree;
import com.sun.source.tree.LiteralTree;
import com.sun.source.tree.MemberReferenceTree;
import com.sun.source.tree.MemberSelectTree;
import com.sun.source.tree.MethodInvocationTree;
import com.sun.source.tree.MethodTree;
import com.sun.source.tree.NewArrayTree;
import com.sun.source.tree.NewClassTree;
import com.sun.source.tree.SynchronizedTree;
import com.sun.source.tree.ThrowTree;
import com.sun.source.tree.Tree;
import com.sun.source.tree.TryTree;
import com.sun.source.tree.TypeCastTree;
import com.sun.source.tree.UnaryTree;
import com.sun.source.tree.VariableTree;
import com.sun.source.tree.WhileLoopTree;
import com.sun.source.util.TreeScanner;
import java.util.ArrayList;
import java.util.List;
import java.util.Map;
import java.util.Set;
import java.util.TreeMap;
import java.util.TreeSet;
import javax.lang.model.element.Modifier;

/**
 * What of ../shared/LANGUAGE.md can be read off the source. The program needs less than LANGUAGE.md leaves (no try, no
 * text but in exceptions, nothing made by a call): what it does not need is told too.
 */
final class Rules extends TreeScanner<Void, Void> {
    private static final Set<String> LIBRARY = Set.of(
        "System.arraycopy", "Math.max", "Math.min", "Math.abs", "Integer.bitCount");
    private static final Set<String> EXCEPTIONS = Set.of(
        "IllegalStateException", "IllegalArgumentException", "IndexOutOfBoundsException");
    private static final String NUMBERS = "int|long|boolean|double|void";
    private static final String STATIC_TYPES = "int|long|boolean|char|String|int\\[]|long\\[]|byte\\[]|char\\[]";
    /** One level of it is a turn ahead, and movesTo looks four turns ahead. */
    private static final Set<String> RECURSION =
        Set.of("reaches", "reachesBehindRun", "reachesBehindTurn", "reachesBehindStride");

    private final Programs.Parsed source;
    private final List<String> told = new ArrayList<>();
    private final Set<String> ownClasses = new TreeSet<>();
    /** By a method's name all that it calls: methods of two classes with one name are taken as one. */
    private final Map<String, Set<String>> calls = new TreeMap<>();
    private String method = "";

    private Rules(Programs.Parsed source) {
        this.source = source;
    }

    /** What is against the rules, a line each. */
    static List<String> toldOf(Programs.Parsed source) {
        Rules rules = new Rules(source);
        rules.need(source.unit().getPackageName() == null, "rule 1: a package", source.unit());
        rules.need(source.unit().getTypeDecls().size() == 1, "rule 1: more than one class", source.unit());
        new TreeScanner<Void, Void>() {
            @Override
            public Void visitClass(ClassTree tree, Void none) {
                rules.ownClasses.add(tree.getSimpleName().toString());
                return super.visitClass(tree, none);
            }
        }.scan(source.unit(), null);
        rules.need(rules.ownClasses.size() <= 12, "rule 11: more than twelve classes", source.unit());
        rules.scan(source.unit(), null);
        for (String name : rules.calls.keySet()) {
            rules.need(rules.depthBelow(name, new ArrayList<>()) <= 8, "rule 11: deep calls in " + name, source.unit());
        }
        return rules.told;
    }

    private void need(boolean so, String what, Tree tree) {
        if (!so) {
            told.add("line " + source.firstLineOf(tree) + ": " + what);
        }
    }

    // ---- classes, fields, methods

    @Override
    public Void visitClass(ClassTree tree, Void none) {
        int fields = 0;
        for (Tree member : tree.getMembers()) {
            if (member instanceof VariableTree field) {
                boolean fixed = field.getModifiers().getFlags().contains(Modifier.STATIC);
                fields += fixed ? 0 : 1;
                if (fixed) {
                    staticField(field);
                }
            }
            need(member.getKind() != Tree.Kind.BLOCK, "rule 5: an initialiser block", member);
        }
        need(fields <= 20, "rule 11: more than twenty fields", tree);
        String outer = method;
        method = "";
        super.visitClass(tree, none);
        method = outer;
        return null;
    }

    private void staticField(VariableTree field) {
        need(field.getModifiers().getFlags().contains(Modifier.FINAL), "rule 5: a static field that changes", field);
        need(field.getType().toString().matches(STATIC_TYPES), "rule 5: a static field of another type", field);
        boolean row = field.getType().getKind() == Tree.Kind.ARRAY_TYPE;
        boolean written = field.getInitializer() instanceof NewArrayTree made && made.getInitializers() != null;
        need(!row || written, "rule 5: a row that is not written out", field);
    }

    @Override
    public Void visitVariable(VariableTree tree, Void none) {
        String type = tree.getType().toString();
        boolean own = ownClasses.contains(type.replace("[]", ""));
        boolean number = type.matches("(" + NUMBERS + ")(\\[]){0,2}");
        need(number || own && !type.contains("[][]"), "rule 3: the type " + type, tree);
        return super.visitVariable(tree, none);
    }

    @Override
    public Void visitMethod(MethodTree tree, Void none) {
        method = tree.getName().toString();
        calls.putIfAbsent(method, new TreeSet<>());
        boolean constructs = tree.getReturnType() == null;
        need(constructs || tree.getReturnType().toString().matches(NUMBERS), "rule 3: the result's type", tree);
        need(tree.getParameters().size() <= 7, "rule 11: more than seven parameters", tree);
        need(source.lastLineOf(tree) - source.firstLineOf(tree) < 60, "rule 11: a long method", tree);
        super.visitMethod(tree, none);
        method = "";
        return null;
    }

    // ---- calls

    @Override
    public Void visitMethodInvocation(MethodInvocationTree tree, Void none) {
        ExpressionTree called = tree.getMethodSelect();
        if (called instanceof MemberSelectTree select) {
            boolean library = Character.isUpperCase(select.toString().charAt(0));
            need(!library || LIBRARY.contains(select.toString()), "rule 4: " + select + " is not listed", tree);
            note(select.getIdentifier().toString());
        } else if (called instanceof IdentifierTree name) {
            note(name.toString());
        }
        return super.visitMethodInvocation(tree, none);
    }

    private void note(String name) {
        if (!method.isEmpty()) {
            calls.get(method).add(name);
        }
    }

    /** How many calls stand open at most, this one too; the recursion counts as one. */
    private int depthBelow(String name, List<String> open) {
        if (open.contains(name)) {
            need(RECURSION.contains(name), "rule 8: " + name + " calls itself", source.unit());
            return 0;
        }
        open.add(name);
        int deepest = 0;
        for (String next : calls.getOrDefault(name, Set.of())) {
            int own = RECURSION.contains(name) && RECURSION.contains(next) ? 0 : 1;
            deepest = Math.max(deepest, own + depthBelow(next, open));
        }
        open.remove(name);
        return open.isEmpty() ? deepest + 1 : deepest;
    }

    @Override
    public Void visitThrow(ThrowTree tree, Void none) {
        boolean plain = tree.getExpression() instanceof NewClassTree made
            && EXCEPTIONS.contains(made.getIdentifier().toString())
            && made.getArguments().stream().allMatch(LiteralTree.class::isInstance);
        need(plain, "rule 6: not throw new E(\"..\")", tree);
        need(!method.equals("<init>"), "rule 6: a throw in a constructor", tree);
        return super.visitThrow(tree, none);
    }

    @Override
    public Void visitTry(TryTree tree, Void none) {
        need(false, "rule 6: a try", tree);
        return super.visitTry(tree, none);
    }

    @Override
    public Void visitNewClass(NewClassTree tree, Void none) {
        need(tree.getClassBody() == null, "rule 2: an anonymous class", tree);
        String name = tree.getIdentifier().toString();
        need(EXCEPTIONS.contains(name) || ownClasses.contains(name), "rule 4: " + name + " is not listed", tree);
        need(EXCEPTIONS.contains(name) || isBuilding(), "rule 12: a call makes " + tree, tree);
        return super.visitNewClass(tree, none);
    }

    @Override
    public Void visitNewArray(NewArrayTree tree, Void none) {
        need(isBuilding(), "rule 12: a call makes a row", tree);
        return super.visitNewArray(tree, none);
    }

    /** In a field's initialiser, or in a constructor. */
    private boolean isBuilding() {
        return method.isEmpty() || method.equals("<init>");
    }

    // ---- loops

    /** It counts a variable of its own up to a bound, and nothing else changes this variable. */
    @Override
    public Void visitForLoop(ForLoopTree tree, Void none) {
        String counter = "";
        if (tree.getInitializer().size() == 1 && tree.getInitializer().get(0) instanceof VariableTree first) {
            counter = first.getName().toString();
        }
        String condition = "" + tree.getCondition();
        boolean bound = condition.matches("\\(?" + counter + " <=? [\\w.]+( && .*)?");
        boolean step = tree.getUpdate().size() == 1 && tree.getUpdate().get(0).toString().equals(counter + "++;");
        need(!counter.isEmpty() && bound && step, "rule 9: a for that does not count up to a bound", tree);
        String name = counter;
        new TreeScanner<Void, Void>() {
            @Override
            public Void visitAssignment(AssignmentTree change, Void nothing) {
                need(!change.getVariable().toString().equals(name), "rule 9: the counter is changed", change);
                return super.visitAssignment(change, nothing);
            }

            @Override
            public Void visitCompoundAssignment(CompoundAssignmentTree change, Void nothing) {
                need(!change.getVariable().toString().equals(name), "rule 9: the counter is changed", change);
                return super.visitCompoundAssignment(change, nothing);
            }

            @Override
            public Void visitUnary(UnaryTree change, Void nothing) {
                boolean steps = change.getKind().toString().matches("(PRE|POST)FIX_.*");
                boolean other = !change.getExpression().toString().equals(name);
                need(!steps || other, "rule 9: the counter is changed", change);
                return super.visitUnary(change, nothing);
            }
        }.scan(tree.getStatement(), null);
        return super.visitForLoop(tree, none);
    }

    /** All loops but one count in their head; the one in run counts what is done. */
    @Override
    public Void visitWhileLoop(WhileLoopTree tree, Void none) {
        need(method.equals("run"), "rule 9: a while outside run", tree);
        return super.visitWhileLoop(tree, none);
    }

    @Override
    public Void visitDoWhileLoop(DoWhileLoopTree tree, Void none) {
        need(false, "rule 9: a do", tree);
        return super.visitDoWhileLoop(tree, none);
    }

    // ---- numbers, texts

    @Override
    public Void visitBinary(BinaryTree tree, Void none) {
        boolean divides = tree.getKind() == Tree.Kind.DIVIDE || tree.getKind() == Tree.Kind.REMAINDER;
        boolean seen = tree.getRightOperand().toString().matches("2|MOST_SAVED|\\(double\\)inGlasses");
        need(!divides || seen, "rule 7: a divisor that nobody has looked at", tree);
        boolean joins = isText(tree.getLeftOperand()) || isText(tree.getRightOperand());
        need(tree.getKind() != Tree.Kind.PLUS || !joins, "rule 10: texts joined by +", tree);
        return super.visitBinary(tree, none);
    }

    @Override
    public Void visitCompoundAssignment(CompoundAssignmentTree tree, Void none) {
        boolean divides = tree.getKind() == Tree.Kind.DIVIDE_ASSIGNMENT
            || tree.getKind() == Tree.Kind.REMAINDER_ASSIGNMENT;
        need(!divides, "rule 7: a divisor that nobody has looked at", tree);
        noConstantRow(tree.getVariable());
        return super.visitCompoundAssignment(tree, none);
    }

    @Override
    public Void visitAssignment(AssignmentTree tree, Void none) {
        noConstantRow(tree.getVariable());
        return super.visitAssignment(tree, none);
    }

    private void noConstantRow(ExpressionTree changed) {
        boolean constant = changed instanceof ArrayAccessTree row && row.getExpression().toString().matches("[A-Z_]+");
        need(!constant, "rule 5: a constant row is changed", changed);
    }

    @Override
    public Void visitLiteral(LiteralTree tree, Void none) {
        if (tree.getValue() instanceof String text) {
            need(text.chars().allMatch(sign -> sign >= 1 && sign <= 127), "rule 4: a sign beyond 127", tree);
        }
        need(tree.getKind() != Tree.Kind.NULL_LITERAL, "a null: nothing here needs one", tree);
        return super.visitLiteral(tree, none);
    }

    private static boolean isText(ExpressionTree tree) {
        return tree.getKind() == Tree.Kind.STRING_LITERAL;
    }

    @Override
    public Void visitTypeCast(TypeCastTree tree, Void none) {
        need(tree.getType().toString().matches(NUMBERS), "rule 6: a cast to a class", tree);
        return super.visitTypeCast(tree, none);
    }

    // ---- what the program does without

    @Override
    public Void visitImport(ImportTree tree, Void none) {
        need(false, "rule 4: an import", tree);
        return super.visitImport(tree, none);
    }

    @Override
    public Void visitLambdaExpression(LambdaExpressionTree tree, Void none) {
        need(false, "rule 2: a lambda", tree);
        return super.visitLambdaExpression(tree, none);
    }

    @Override
    public Void visitMemberReference(MemberReferenceTree tree, Void none) {
        need(false, "rule 2: a method reference", tree);
        return super.visitMemberReference(tree, none);
    }

    @Override
    public Void visitAssert(AssertTree tree, Void none) {
        need(false, "rule 6: an assert", tree);
        return super.visitAssert(tree, none);
    }

    @Override
    public Void visitSynchronized(SynchronizedTree tree, Void none) {
        need(false, "rule 6: synchronized", tree);
        return super.visitSynchronized(tree, none);
    }

    @Override
    public Void visitInstanceOf(InstanceOfTree tree, Void none) {
        need(false, "rule 6: an instanceof", tree);
        return super.visitInstanceOf(tree, none);
    }
}
