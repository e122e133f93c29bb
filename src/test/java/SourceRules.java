import com.sun.source.tree.ArrayAccessTree;
import com.sun.source.tree.BinaryTree;
import com.sun.source.tree.ClassTree;
import com.sun.source.tree.CompilationUnitTree;
import com.sun.source.tree.CompoundAssignmentTree;
import com.sun.source.tree.ExpressionStatementTree;
import com.sun.source.tree.ExpressionTree;
import com.sun.source.tree.ForLoopTree;
import com.sun.source.tree.IdentifierTree;
import com.sun.source.tree.LiteralTree;
import com.sun.source.tree.MemberSelectTree;
import com.sun.source.tree.MethodTree;
import com.sun.source.tree.NewArrayTree;
import com.sun.source.tree.NewClassTree;
import com.sun.source.tree.PrimitiveTypeTree;
import com.sun.source.tree.StatementTree;
import com.sun.source.tree.ThrowTree;
import com.sun.source.tree.Tree;
import com.sun.source.tree.Tree.Kind;
import com.sun.source.tree.TypeCastTree;
import com.sun.source.tree.UnaryTree;
import com.sun.source.tree.VariableTree;
import com.sun.source.util.TreePath;
import com.sun.source.util.TreePathScanner;
import com.sun.source.util.TreeScanner;
import com.sun.source.util.Trees;
import java.util.HashSet;
import java.util.LinkedHashMap;
import java.util.Map;
import java.util.Set;
import javax.lang.model.element.Element;
import javax.lang.model.element.ElementKind;
import javax.lang.model.element.Modifier;
import javax.lang.model.element.VariableElement;
import javax.lang.model.type.TypeKind;

/** Reads the source of the class by the numbered rules; here and there it allows less than they do: what is in use. */
final class SourceRules extends TreePathScanner<Void, Void> {
    private static final Set<Kind> UNKNOWN_KINDS = Set.of(Kind.LAMBDA_EXPRESSION, Kind.MEMBER_REFERENCE, Kind.TRY,
            Kind.SYNCHRONIZED, Kind.ASSERT, Kind.WHILE_LOOP, Kind.DO_WHILE_LOOP, Kind.ENHANCED_FOR_LOOP,
            Kind.INSTANCE_OF, Kind.ANNOTATION);
    private static final Set<TypeKind> TYPES =
            Set.of(TypeKind.INT, TypeKind.BOOLEAN, TypeKind.CHAR, TypeKind.FLOAT, TypeKind.VOID);
    private static final Set<String> EXCEPTIONS = Set.of("IllegalStateException", "IllegalArgumentException",
            "IndexOutOfBoundsException", "NoSuchElementException");
    private static final Set<String> LIBRARY = Set.of("Math.max", "Math.min", "Integer.bitCount");
    private static final Set<String> NAMES_OF_OBJECTS = Set.of("equals", "hashCode", "toString", "finalize", "clone");

    private final Trees trees;
    private final CompilationUnitTree unit;
    private final Map<Element, Set<Element>> calls = new LinkedHashMap<>();
    private final Map<Element, Integer> depths = new LinkedHashMap<>();
    private final Set<String> publicNames = new HashSet<>();
    private final Set<String> otherNames = new HashSet<>();
    private int classes = 0;

    SourceRules(Trees trees, CompilationUnitTree unit) {
        this.trees = trees;
        this.unit = unit;
    }

    private void rule(int number, String what, boolean kept) {
        Check.same("rule " + number + ", " + what, "true", String.valueOf(kept));
    }

    private String at(Tree tree) {
        long start = trees.getSourcePositions().getStartPosition(unit, tree);
        return "line " + unit.getLineMap().getLineNumber(start);
    }

    private long lines(Tree tree) {
        long start = trees.getSourcePositions().getStartPosition(unit, tree);
        long end = trees.getSourcePositions().getEndPosition(unit, tree);
        return unit.getLineMap().getLineNumber(end) - unit.getLineMap().getLineNumber(start) + 1;
    }

    /** The method or class round the present place, or null. */
    private <T extends Tree> T round(Class<T> kind) {
        for (TreePath path = getCurrentPath(); path != null; path = path.getParentPath()) {
            if (kind.isInstance(path.getLeaf())) {
                return kind.cast(path.getLeaf());
            }
        }
        return null;
    }

    private boolean inConstructorOrField() {
        MethodTree method = round(MethodTree.class);
        return method == null || method.getName().contentEquals("<init>");
    }

    @Override
    public Void scan(Tree tree, Void none) {
        if (tree != null) {
            rule(2, at(tree) + ": " + tree.getKind(), !UNKNOWN_KINDS.contains(tree.getKind()));
        }
        return super.scan(tree, none);
    }

    @Override
    public Void visitCompilationUnit(CompilationUnitTree tree, Void none) {
        rule(1, "one class, no package", tree.getTypeDecls().size() == 1 && tree.getPackage() == null);
        return super.visitCompilationUnit(tree, none);
    }

    @Override
    public Void visitClass(ClassTree tree, Void none) {
        classes++;
        boolean inside = getCurrentPath().getParentPath().getLeaf().getKind() != Kind.COMPILATION_UNIT;
        Set<Modifier> modifiers = tree.getModifiers().getFlags();
        rule(2, at(tree) + ": static class", !inside || modifiers.contains(Modifier.STATIC));
        int fields = 0;
        for (Tree member : tree.getMembers()) {
            rule(5, at(member) + ": no initialiser block", member.getKind() != Kind.BLOCK);
            if (member instanceof VariableTree field && !isConstant(field)) {
                fields++;
            }
        }
        rule(11, at(tree) + ": at most twenty fields", fields <= 20);
        return super.visitClass(tree, none);
    }

    private boolean isConstant(VariableTree field) {
        return field.getModifiers().getFlags().contains(Modifier.STATIC);
    }

    @Override
    public Void visitVariable(VariableTree tree, Void none) {
        if (isConstant(tree)) {
            boolean isFinal = tree.getModifiers().getFlags().contains(Modifier.FINAL);
            rule(5, at(tree) + ": a final constant", isFinal && constant(getCurrentPath()) != null);
        }
        return super.visitVariable(tree, none);
    }

    @Override
    public Void visitMethod(MethodTree tree, Void none) {
        Element method = trees.getElement(getCurrentPath());
        calls.putIfAbsent(method, new HashSet<>());
        String name = tree.getName().toString();
        boolean open = tree.getModifiers().getFlags().contains(Modifier.PUBLIC);
        if (!name.equals("<init>")) {
            (open ? publicNames : otherNames).add(name);
        }
        rule(6, name, !NAMES_OF_OBJECTS.contains(name));
        rule(11, name + ": at most seven parameters", tree.getParameters().size() <= 7);
        rule(11, name + ": at most sixty lines", lines(tree) <= 60);
        return super.visitMethod(tree, none);
    }

    @Override
    public Void visitPrimitiveType(PrimitiveTypeTree tree, Void none) {
        rule(3, at(tree) + ": " + tree, TYPES.contains(tree.getPrimitiveTypeKind()));
        return super.visitPrimitiveType(tree, none);
    }

    @Override
    public Void visitIdentifier(IdentifierTree tree, Void none) {
        used(tree);
        return super.visitIdentifier(tree, none);
    }

    @Override
    public Void visitMemberSelect(MemberSelectTree tree, Void none) {
        used(tree);
        return super.visitMemberSelect(tree, none);
    }

    /** A method of the class's own goes into the chains of calls; one of another class must be known. */
    private void used(Tree tree) {
        Element element = trees.getElement(getCurrentPath());
        boolean called = element != null && element.getKind() == ElementKind.METHOD;
        if (called && isOwn(element)) {
            MethodTree caller = round(MethodTree.class);
            rule(12, at(tree) + ": no method is called to make a field", caller != null);
            calls.computeIfAbsent(caller == null ? null : trees.getElement(trees.getPath(unit, caller)),
                    each -> new HashSet<>()).add(element);
        } else if (called) {
            String name = element.getEnclosingElement().getSimpleName() + "." + element.getSimpleName();
            rule(4, at(tree) + ": " + name, LIBRARY.contains(name));
        } else if (element != null && element.getKind() == ElementKind.CLASS && !isOwn(element)) {
            String name = element.getSimpleName().toString();
            boolean known = EXCEPTIONS.contains(name) || name.equals("Math") || name.equals("Integer");
            rule(4, at(tree) + ": " + name, known);
        }
    }

    private static boolean isOwn(Element element) {
        for (Element each = element; each != null; each = each.getEnclosingElement()) {
            if (each.getSimpleName().contentEquals("ThornCores")) {
                return true;
            }
        }
        return false;
    }

    @Override
    public Void visitThrow(ThrowTree tree, Void none) {
        boolean known = false;
        if (tree.getExpression() instanceof NewClassTree made) {
            known = EXCEPTIONS.contains(made.getIdentifier().toString());
            for (ExpressionTree argument : made.getArguments()) {
                known &= argument.getKind() == Kind.STRING_LITERAL && made.getArguments().size() == 1;
            }
        }
        rule(6, at(tree) + ": throws what the rule lists", known);
        rule(6, at(tree) + ": throws in no constructor", !inConstructorOrField());
        return super.visitThrow(tree, none);
    }

    @Override
    public Void visitNewClass(NewClassTree tree, Void none) {
        boolean thrown = getCurrentPath().getParentPath().getLeaf().getKind() == Kind.THROW;
        rule(12, at(tree) + ": objects are made with the object", thrown || inConstructorOrField());
        rule(2, at(tree) + ": no class without a name", tree.getClassBody() == null);
        return super.visitNewClass(tree, none);
    }

    @Override
    public Void visitNewArray(NewArrayTree tree, Void none) {
        rule(12, at(tree) + ": rows are made with the object", inConstructorOrField() && inRow());
        return super.visitNewArray(tree, none);
    }

    @Override
    public Void visitArrayAccess(ArrayAccessTree tree, Void none) {
        rule(7, at(tree) + ": an index is tested where it is used, in Row", inRow());
        return super.visitArrayAccess(tree, none);
    }

    private boolean inRow() {
        ClassTree inside = round(ClassTree.class);
        return inside != null && inside.getSimpleName().contentEquals("Row");
    }

    @Override
    public Void visitLiteral(LiteralTree tree, Void none) {
        rule(7, at(tree) + ": no null", tree.getKind() != Kind.NULL_LITERAL);
        if (tree.getValue() instanceof String text) {
            rule(4, at(tree) + ": signs of a text", text.chars().allMatch(sign -> sign >= 1 && sign <= 127));
        }
        return super.visitLiteral(tree, none);
    }

    @Override
    public Void visitTypeCast(TypeCastTree tree, Void none) {
        rule(7, at(tree) + ": casts numbers alone", tree.getType() instanceof PrimitiveTypeTree);
        return super.visitTypeCast(tree, none);
    }

    @Override
    public Void visitBinary(BinaryTree tree, Void none) {
        if (tree.getKind() == Kind.DIVIDE || tree.getKind() == Kind.REMAINDER) {
            divided(tree, tree.getRightOperand());
        }
        rule(10, at(tree) + ": no texts joined", trees.getTypeMirror(getCurrentPath()).getKind().isPrimitive());
        return super.visitBinary(tree, none);
    }

    @Override
    public Void visitCompoundAssignment(CompoundAssignmentTree tree, Void none) {
        if (tree.getKind() == Kind.DIVIDE_ASSIGNMENT || tree.getKind() == Kind.REMAINDER_ASSIGNMENT) {
            divided(tree, tree.getExpression());
        }
        return super.visitCompoundAssignment(tree, none);
    }

    /** The one divisor that is no constant is the number of plants, which averageNeighbors tests before. */
    private void divided(Tree tree, ExpressionTree divisor) {
        Object constant = divisor instanceof LiteralTree literal ? literal.getValue()
                : constant(new TreePath(getCurrentPath(), divisor));
        boolean known = constant instanceof Integer number && number > 0;
        rule(7, at(tree) + ": a divisor that cannot be 0",
                known || round(MethodTree.class).getName().contentEquals("averageNeighbors"));
    }

    private Object constant(TreePath path) {
        return trees.getElement(path) instanceof VariableElement variable ? variable.getConstantValue() : null;
    }

    /** A loop has a counter of its own, which goes one up or down against a bound, and is not set elsewhere. */
    @Override
    public Void visitForLoop(ForLoopTree tree, Void none) {
        String counter = "";
        for (StatementTree begin : tree.getInitializer()) {
            counter = begin instanceof VariableTree variable ? variable.getName().toString() : "";
        }
        int step = 0;
        for (ExpressionStatementTree update : tree.getUpdate()) {
            step += stepOf(update.getExpression(), counter);
        }
        rule(9, at(tree) + ": a loop's end", tree.getInitializer().size() == 1 && tree.getUpdate().size() == 1
                && isBound(tree.getCondition(), counter, step) && !isSet(tree.getStatement(), counter));
        return super.visitForLoop(tree, none);
    }

    private static int stepOf(ExpressionTree update, String counter) {
        if (!(update instanceof UnaryTree unary) || !unary.getExpression().toString().equals(counter)) {
            return 0;
        }
        return switch (unary.getKind()) {
            case POSTFIX_INCREMENT, PREFIX_INCREMENT -> 1;
            case POSTFIX_DECREMENT, PREFIX_DECREMENT -> -1;
            default -> 0;
        };
    }

    private static boolean isBound(ExpressionTree condition, String counter, int step) {
        if (!(condition instanceof BinaryTree compared) || !compared.getLeftOperand().toString().equals(counter)) {
            return false;
        }
        return switch (compared.getKind()) {
            case LESS_THAN, LESS_THAN_EQUAL -> step == 1;
            case GREATER_THAN, GREATER_THAN_EQUAL -> step == -1;
            default -> false;
        };
    }

    private static boolean isSet(StatementTree body, String counter) {
        boolean[] found = {false};
        new TreeScanner<Void, Void>() {
            @Override
            public Void scan(Tree tree, Void none) {
                if (tree instanceof UnaryTree unary && stepOf(unary, counter) != 0
                        || tree instanceof CompoundAssignmentTree set && set.getVariable().toString().equals(counter)
                        || tree instanceof com.sun.source.tree.AssignmentTree put
                        && put.getVariable().toString().equals(counter)) {
                    found[0] = true;
                }
                return super.scan(tree, none);
            }
        }.scan(body, null);
        return found[0];
    }

    /** What only the whole source tells. */
    void atTheEnd() {
        rule(11, "at most twelve classes", classes <= 12);
        for (String name : otherNames) {
            rule(1, name + " bears no public name", !publicNames.contains(name));
        }
        for (Element method : calls.keySet()) {
            rule(11, method + ": calls at most eight deep", depth(method, 0) <= 8);
        }
    }

    /** The calls that stand open at once when this one is made, itself the first; a recursion shows as too many. */
    private int depth(Element method, int open) {
        if (open > 20) {
            return open;
        }
        if (depths.containsKey(method)) {
            return depths.get(method);
        }
        int deepest = 0;
        for (Element called : calls.getOrDefault(method, Set.of())) {
            deepest = Math.max(deepest, depth(called, open + 1));
        }
        depths.put(method, deepest + 1);
        return deepest + 1;
    }
}
