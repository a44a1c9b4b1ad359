import com.sun.source.tree.AssertTree;
import com.sun.source.tree.AssignmentTree;
import com.sun.source.tree.BinaryTree;
import com.sun.source.tree.BlockTree;
import com.sun.source.tree.ClassTree;
import com.sun.source.tree.CompoundAssignmentTree;
import com.sun.source.tree.DoWhileLoopTree;
import com.sun.source.tree.ExpressionTree;
import com.sun.source.tree.ForLoopTree;
import com.sun.source.tree.IdentifierTree;
import com.sun.source.tree.ImportTree;
import com.sun.source.tree.InstanceOfTree;
import com.sun.source.tree.LambdaExpressionTree;
import com.sun.source.tree.LiteralTree;
import com.sun.source.tree.MemberReferenceTree;
import com.sun.source.tree.MemberSelectTree;
import com.sun.source.tree.MethodInvocationTree;
import com.sun.source.tree.MethodTree;
import com.sun.source.tree.NewArrayTree;
import com.sun.source.tree.NewClassTree;
import com.sun.source.tree.PrimitiveTypeTree;
import com.sun.source.tree.StatementTree;
import com.sun.source.tree.SynchronizedTree;
import com.sun.source.tree.ThrowTree;
import com.sun.source.tree.Tree;
import com.sun.source.tree.Tree.Kind;
import com.sun.source.tree.TryTree;
import com.sun.source.tree.TypeCastTree;
import com.sun.source.tree.UnaryTree;
import com.sun.source.tree.VariableTree;
import com.sun.source.tree.WhileLoopTree;
import java.io.IOException;
import java.nio.file.Path;
import java.util.ArrayList;
import java.util.HashSet;
import java.util.List;
import java.util.Map;
import java.util.Set;
import javax.lang.model.element.Element;
import javax.lang.model.element.ElementKind;
import javax.lang.model.element.ExecutableElement;
import javax.lang.model.element.Modifier;
import javax.lang.model.element.VariableElement;

/**
 * The rules of ../shared/LANGUAGE.md, as far as the program's text shows them. Where a rule leaves more than the
 * program uses (texts, lists, try), the test leaves only what the program uses.
 */
public final class LanguageTest {
    private static final int RULES = 13;
    private static final Set<String> TYPES = Set.of("int", "long", "boolean", "int[]", "long[]", "void");
    private static final Set<String> IMPORTS = Set.of("java.util.Arrays", "java.util.NoSuchElementException");
    private static final Set<String> ROW_FUNCTIONS = Set.of("java.lang.System.arraycopy", "java.util.Arrays.fill",
        "java.util.Arrays.copyOf", "java.util.Arrays.copyOfRange");
    private static final Set<String> NUMBER_CLASSES = Set.of("java.lang.Integer", "java.lang.Long", "java.lang.Math");
    private static final Set<String> CONSTANT_ROWS = Set.of("int[]", "long[]", "char[]", "byte[]");
    private static final Set<String> EXCEPTIONS = Set.of("IllegalStateException", "IllegalArgumentException",
        "IndexOutOfBoundsException", "ArithmeticException", "UnsupportedOperationException", "NoSuchElementException",
        "RuntimeException");

    private final Source source;
    private int rule;

    private LanguageTest(Source source) {
        this.source = source;
    }

    public static void main(String[] args) throws IOException {
        String rules = java.nio.file.Files.readString(Path.of("../shared/LANGUAGE.md"));
        Check.due("the rules", rules.lines().filter(line -> line.matches("\\d+\\. .*")).count(), RULES);
        LanguageTest test = new LanguageTest(Source.read(Path.of("src/main/java/CrashVault.java")));
        List<Runnable> tests = List.of(test::face, test::classesInside, test::types, test::library, test::statics,
            test::exceptions, test::nothingThrowsByItself, test::recursion, test::loops, test::joinedTexts,
            test::sizes, test::objects, test::sameAnswers);
        Check.due("the rules with a test", tests.size(), RULES);
        for (Runnable each : tests) {
            test.rule++;
            each.run();
        }
        Check.end();
    }

    private void holds(String what, Tree at, boolean holds) {
        Check.due("rule " + rule + ", line " + source.line(at) + ", " + what, holds, true);
    }

    private void none(String what, Class<? extends Tree> kind) {
        Check.due("rule " + rule + ", how often there is " + what, source.all(kind).size(), 0);
    }

    /** Rule 1; FaceTest has the rest of it. */
    private void face() {
        Check.due("rule 1, a package", source.unit().getPackageName() == null, true);
        Check.due("rule 1, the classes of the file", source.unit().getTypeDecls().size(), 1);
        Set<String> publicNames = new HashSet<>();
        for (MethodTree method : source.all(MethodTree.class)) {
            if (has(method, Modifier.PUBLIC)) {
                publicNames.add(method.getName().toString());
            }
        }
        for (MethodTree method : source.all(MethodTree.class)) {
            if (has(method, Modifier.PRIVATE)) {
                holds(method.getName() + " is no public name", method,
                    !publicNames.contains(method.getName().toString()));
            }
        }
    }

    /** Rule 2. */
    private void classesInside() {
        none("a lambda", LambdaExpressionTree.class);
        none("a method reference", MemberReferenceTree.class);
        Tree outer = source.unit().getTypeDecls().get(0);
        for (ClassTree each : source.all(ClassTree.class)) {
            if (each != outer) {
                holds(each.getSimpleName() + " stands in the outer class", each, source.parent(each) == outer);
                holds(each.getSimpleName() + " is static", each, has(each, Modifier.STATIC));
                holds(each.getSimpleName() + " is not public", each, !has(each, Modifier.PUBLIC));
                holds(each.getSimpleName() + " is not protected", each, !has(each, Modifier.PROTECTED));
            }
        }
    }

    /** Rule 3. */
    private void types() {
        for (VariableTree each : source.all(VariableTree.class)) {
            holds("the type of " + each.getName(), each, isOurs(source.typeOf(each)));
        }
        for (MethodTree each : source.all(MethodTree.class)) {
            holds("what " + each.getName() + " answers", each,
                each.getReturnType() == null || isOurs(source.typeOf(each.getReturnType())));
        }
    }

    private boolean isOurs(String type) {
        return TYPES.contains(type) || source.ownClasses().contains(type);
    }

    /** Rule 4. */
    private void library() {
        for (ImportTree each : source.all(ImportTree.class)) {
            String name = each.getQualifiedIdentifier().toString();
            holds("import " + name, each, !each.isStatic() && IMPORTS.contains(name));
        }
        for (MethodInvocationTree each : source.all(MethodInvocationTree.class)) {
            holds("the call of " + each.getMethodSelect(), each,
                mayCall((ExecutableElement) source.meant(each.getMethodSelect())));
        }
        for (MemberSelectTree each : source.all(MemberSelectTree.class)) {
            Element meant = source.meant(each);
            if (meant != null && meant.getKind() == ElementKind.FIELD) {
                holds("the field " + each, each, isOwn(meant));
            }
        }
    }

    private boolean mayCall(ExecutableElement method) {
        String owner = method.getEnclosingElement().toString();
        String name = method.getSimpleName().toString();
        return isOwn(method) || ROW_FUNCTIONS.contains(owner + "." + name)
            || NUMBER_CLASSES.contains(owner) && method.getModifiers().contains(Modifier.STATIC)
            && !name.endsWith("Exact") && method.getParameters().stream().allMatch(LanguageTest::isWhole);
    }

    private boolean isOwn(Element member) {
        return source.ownClasses().contains(member.getEnclosingElement().toString());
    }

    private static boolean isWhole(VariableElement parameter) {
        String type = parameter.asType().toString();
        return type.equals("int") || type.equals("long");
    }

    /** Rule 5. */
    private void statics() {
        for (BlockTree each : source.all(BlockTree.class)) {
            holds("a static block", each, !each.isStatic());
        }
        for (VariableTree each : source.all(VariableTree.class)) {
            if (has(each, Modifier.STATIC)) {
                holds(each.getName() + " is final", each, has(each, Modifier.FINAL));
                holds(each.getName() + " is a constant", each,
                    isConstant(source.meant(each)) || isWrittenOutRow(each) && isOnlyCopiedFrom(source.meant(each)));
            }
        }
    }

    private static boolean isConstant(Element meant) {
        return meant instanceof VariableElement variable && variable.getConstantValue() != null;
    }

    private boolean isWrittenOutRow(VariableTree field) {
        return CONSTANT_ROWS.contains(source.typeOf(field)) && field.getInitializer() instanceof NewArrayTree row
            && row.getInitializers() != null
            && row.getInitializers().stream().allMatch(each -> each instanceof LiteralTree);
    }

    /** A row that is handed to nothing but arraycopy, as what is copied, is never changed. */
    private boolean isOnlyCopiedFrom(Element row) {
        for (ExpressionTree use : source.all(ExpressionTree.class)) {
            boolean isName = use instanceof IdentifierTree || use instanceof MemberSelectTree;
            if (isName && row.equals(source.meant(use)) && !(source.parent(use) instanceof MethodInvocationTree call
                    && call.getMethodSelect().toString().equals("System.arraycopy")
                    && call.getArguments().get(0) == use)) {
                return false;
            }
        }
        return true;
    }

    /** Rule 6; what is thrown when is told by SentencesTest and RunsTest. */
    private void exceptions() {
        none("a try", TryTree.class);
        none("an assert", AssertTree.class);
        none("a synchronized block", SynchronizedTree.class);
        none("an instanceof", InstanceOfTree.class);
        for (ThrowTree each : source.all(ThrowTree.class)) {
            holds(each.toString(), each, isPlainThrow(each.getExpression()));
            MethodTree method = source.around(each, MethodTree.class);
            holds("a throw outside a constructor", each, method != null && method.getReturnType() != null);
        }
        for (MethodTree each : source.all(MethodTree.class)) {
            holds(each.getName() + " is of no object's own methods", each,
                !Set.of("equals", "hashCode", "toString", "finalize", "clone").contains(each.getName().toString()));
            holds(each.getName() + " is not synchronized", each, !has(each, Modifier.SYNCHRONIZED));
        }
    }

    private static boolean isPlainThrow(ExpressionTree thrown) {
        return thrown instanceof NewClassTree made && made.getClassBody() == null
            && EXCEPTIONS.contains(made.getIdentifier().toString())
            && made.getArguments().isEmpty();
    }

    /** Rule 7, for divisors and casts; indices are told by RunsTest, where no other exception may come. */
    private void nothingThrowsByItself() {
        for (BinaryTree each : source.all(BinaryTree.class)) {
            if (each.getKind() == Kind.DIVIDE || each.getKind() == Kind.REMAINDER) {
                holds("the divisor of " + each, each, isPositive(each.getRightOperand()));
            }
        }
        for (CompoundAssignmentTree each : source.all(CompoundAssignmentTree.class)) {
            holds(each + " does not divide", each,
                each.getKind() != Kind.DIVIDE_ASSIGNMENT && each.getKind() != Kind.REMAINDER_ASSIGNMENT);
        }
        for (TypeCastTree each : source.all(TypeCastTree.class)) {
            holds(each + " is a cast of numbers", each, each.getType() instanceof PrimitiveTypeTree);
        }
    }

    private boolean isPositive(ExpressionTree expression) {
        Object value = expression instanceof LiteralTree literal ? literal.getValue()
            : source.meant(expression) instanceof VariableElement variable ? variable.getConstantValue() : null;
        return value instanceof Integer number && number > 0;
    }

    /** Rule 8: there is none. */
    private void recursion() {
        Map<Element, Set<Element>> calls = source.calls();
        for (MethodTree each : source.all(MethodTree.class)) {
            Set<Element> reached = new HashSet<>();
            reach(source.meant(each), calls, reached);
            holds(each.getName() + " never calls itself", each, !reached.contains(source.meant(each)));
        }
    }

    private static void reach(Element from, Map<Element, Set<Element>> calls, Set<Element> reached) {
        for (Element called : calls.getOrDefault(from, Set.of())) {
            if (reached.add(called)) {
                reach(called, calls, reached);
            }
        }
    }

    /** Rule 9: each loop counts a variable of its method up to a bound that the loop leaves alone. */
    private void loops() {
        none("a do loop", DoWhileLoopTree.class);
        for (ForLoopTree each : source.all(ForLoopTree.class)) {
            holds("the end of the loop while " + each.getCondition(), each, hasEnd(each, each.getCondition()));
        }
        for (WhileLoopTree each : source.all(WhileLoopTree.class)) {
            holds("the end of the loop while " + each.getCondition(), each, hasEnd(each, each.getCondition()));
        }
    }

    private boolean hasEnd(StatementTree loop, Tree condition) {
        if (condition == null) {
            return false;
        }
        for (BinaryTree each : source.allIn(condition, BinaryTree.class)) {
            boolean compares = each.getKind() == Kind.LESS_THAN || each.getKind() == Kind.LESS_THAN_EQUAL;
            if (compares && mustHold(each, condition) && isCounter(each.getLeftOperand(), loop)
                    && isLeftAlone(each.getRightOperand(), loop)) {
                return true;
            }
        }
        return false;
    }

    private boolean mustHold(Tree part, Tree condition) {
        for (Tree each = part; each != condition; each = source.parent(each)) {
            Kind kind = source.parent(each).getKind();
            if (kind != Kind.CONDITIONAL_AND && kind != Kind.PARENTHESIZED) {
                return false;
            }
        }
        return true;
    }

    private boolean isCounter(ExpressionTree counter, StatementTree loop) {
        Element meant = source.meant(counter);
        if (!(counter instanceof IdentifierTree) || meant.getKind() != ElementKind.LOCAL_VARIABLE) {
            return false;
        }
        List<Tree> changes = new ArrayList<>();
        for (Tree each : changesIn(loop)) {
            if (meant.equals(source.meant(changed(each)))) {
                changes.add(each);
            }
        }
        return changes.size() == 1 && (changes.get(0).getKind() == Kind.POSTFIX_INCREMENT
            || changes.get(0) instanceof CompoundAssignmentTree step && step.getKind() == Kind.PLUS_ASSIGNMENT
            && isPositive(step.getExpression()));
    }

    private boolean isLeftAlone(ExpressionTree bound, StatementTree loop) {
        Set<Element> changed = new HashSet<>();
        for (Tree each : changesIn(loop)) {
            changed.add(source.meant(changed(each)));
        }
        return source.allIn(bound, MethodInvocationTree.class).isEmpty()
            && source.allIn(bound, IdentifierTree.class).stream().noneMatch(each -> changed.contains(source.meant(each)));
    }

    private List<Tree> changesIn(StatementTree loop) {
        List<Tree> changes = new ArrayList<>(source.allIn(loop, AssignmentTree.class));
        changes.addAll(source.allIn(loop, CompoundAssignmentTree.class));
        for (UnaryTree each : source.allIn(loop, UnaryTree.class)) {
            if (each.getKind().name().endsWith("CREMENT")) {
                changes.add(each);
            }
        }
        return changes;
    }

    private static Tree changed(Tree change) {
        if (change instanceof AssignmentTree assignment) {
            return assignment.getVariable();
        }
        return change instanceof CompoundAssignmentTree compound ? compound.getVariable()
            : ((UnaryTree) change).getExpression();
    }

    /** Rule 10: where there is no text, none is joined by +. */
    private void joinedTexts() {
        for (LiteralTree each : source.all(LiteralTree.class)) {
            holds(each + " is no text", each, each.getKind() != Kind.STRING_LITERAL);
        }
    }

    /** Rule 11. */
    private void sizes() {
        Map<Element, Set<Element>> calls = source.calls();
        for (MethodTree each : source.all(MethodTree.class)) {
            holds("the parameters of " + each.getName(), each, each.getParameters().size() <= 7);
            holds("the lines of " + each.getName(), each, source.lines(each) <= 60);
            holds("how deep " + each.getName() + " calls", each, depth(source.meant(each), calls, 0) <= 8);
        }
        Check.due("rule 11, at most twelve classes", source.all(ClassTree.class).size() <= 12, true);
        for (ClassTree each : source.all(ClassTree.class)) {
            long fields = each.getMembers().stream()
                .filter(member -> member instanceof VariableTree field && !has(field, Modifier.STATIC)).count();
            holds("the fields of " + each.getSimpleName(), each, fields <= 20);
        }
    }

    /** How many calls stand open at most, this one and the library's own counted; rule 8 has found no circle. */
    private static int depth(Element method, Map<Element, Set<Element>> calls, int above) {
        if (above > 100) {
            return above;
        }
        int deepest = above + 1;
        for (Element called : calls.getOrDefault(method, Set.of())) {
            deepest = Math.max(deepest, depth(called, calls, above + 1));
        }
        return deepest;
    }

    /** Rule 12: calls make nothing but what they throw. */
    private void objects() {
        for (NewClassTree each : source.all(NewClassTree.class)) {
            holds(each.toString(), each, source.around(each, MethodTree.class) == null
                || source.parent(each) instanceof ThrowTree);
        }
        for (NewArrayTree each : source.all(NewArrayTree.class)) {
            holds(each.toString(), each, source.around(each, MethodTree.class) == null);
        }
        for (MethodTree each : source.all(MethodTree.class)) {
            holds("a constructor calls nothing", each,
                each.getReturnType() != null || source.allIn(each, MethodInvocationTree.class).isEmpty());
        }
    }

    /** Rule 13: rule 4 has found no call of such a kind; two vaults side by side answer alike. */
    private void sameAnswers() {
        CrashVault one = Scene.changed();
        CrashVault other = Scene.changed();
        for (int save = 0; save < 3; save++) {
            Check.due("rule 13, the vault", Told.vault(one), Told.vault(other));
            one.save(1000);
            other.save(1000);
        }
        Check.due("rule 13, slot 0", Told.slot(one, 0), Told.slot(other, 0));
        Check.due("rule 13, slot 1", Told.slot(one, 1), Told.slot(other, 1));
    }

    private static boolean has(MethodTree method, Modifier modifier) {
        return method.getModifiers().getFlags().contains(modifier);
    }

    private static boolean has(ClassTree one, Modifier modifier) {
        return one.getModifiers().getFlags().contains(modifier);
    }

    private static boolean has(VariableTree variable, Modifier modifier) {
        return variable.getModifiers().getFlags().contains(modifier);
    }
}
