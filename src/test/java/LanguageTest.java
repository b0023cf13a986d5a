import com.sun.source.tree.AssignmentTree;
import com.sun.source.tree.BinaryTree;
import com.sun.source.tree.BlockTree;
import com.sun.source.tree.ClassTree;
import com.sun.source.tree.CompilationUnitTree;
import com.sun.source.tree.CompoundAssignmentTree;
import com.sun.source.tree.ExpressionTree;
import com.sun.source.tree.ForLoopTree;
import com.sun.source.tree.IdentifierTree;
import com.sun.source.tree.ImportTree;
import com.sun.source.tree.LiteralTree;
import com.sun.source.tree.MemberSelectTree;
import com.sun.source.tree.MethodInvocationTree;
import com.sun.source.tree.MethodTree;
import com.sun.source.tree.NewArrayTree;
import com.sun.source.tree.NewClassTree;
import com.sun.source.tree.ParenthesizedTree;
import com.sun.source.tree.Tree;
import com.sun.source.tree.TypeCastTree;
import com.sun.source.tree.UnaryTree;
import com.sun.source.tree.VariableTree;
import com.sun.source.tree.WhileLoopTree;
import com.sun.source.util.JavacTask;
import com.sun.source.util.TreePath;
import com.sun.source.util.TreePathScanner;
import com.sun.source.util.TreeScanner;
import com.sun.source.util.Trees;
import java.nio.file.Path;
import java.util.ArrayList;
import java.util.EnumSet;
import java.util.LinkedHashSet;
import java.util.List;
import java.util.Map;
import java.util.Set;
import java.util.TreeMap;
import java.util.TreeSet;
import javax.lang.model.element.Element;
import javax.lang.model.element.ExecutableElement;
import javax.lang.model.element.Modifier;
import javax.lang.model.element.VariableElement;
import javax.lang.model.type.TypeKind;
import javax.lang.model.type.TypeMirror;
import javax.tools.JavaCompiler;
import javax.tools.StandardJavaFileManager;
import javax.tools.ToolProvider;

/** The rules of LANGUAGE.md, held against the class as the compiler reads it; each says which rule it is of. */
public final class LanguageTest {
    /** All that may stand in the class; what rules 2 and 6 forbid is of other kinds (lambda, throw, try, assert ..). */
    private static final Set<Tree.Kind> KINDS = EnumSet.of(Tree.Kind.COMPILATION_UNIT, Tree.Kind.IMPORT,
        Tree.Kind.CLASS, Tree.Kind.METHOD, Tree.Kind.VARIABLE, Tree.Kind.BLOCK, Tree.Kind.MODIFIERS,
        Tree.Kind.PRIMITIVE_TYPE, Tree.Kind.ARRAY_TYPE, Tree.Kind.IDENTIFIER, Tree.Kind.MEMBER_SELECT,
        Tree.Kind.INT_LITERAL, Tree.Kind.LONG_LITERAL, Tree.Kind.CHAR_LITERAL, Tree.Kind.STRING_LITERAL,
        Tree.Kind.BOOLEAN_LITERAL, Tree.Kind.NULL_LITERAL, Tree.Kind.IF, Tree.Kind.FOR_LOOP, Tree.Kind.WHILE_LOOP,
        Tree.Kind.SWITCH, Tree.Kind.CASE, Tree.Kind.RETURN, Tree.Kind.BREAK, Tree.Kind.CONTINUE,
        Tree.Kind.EXPRESSION_STATEMENT, Tree.Kind.PARENTHESIZED, Tree.Kind.ASSIGNMENT,
        Tree.Kind.METHOD_INVOCATION, Tree.Kind.NEW_CLASS, Tree.Kind.NEW_ARRAY, Tree.Kind.ARRAY_ACCESS,
        Tree.Kind.TYPE_CAST, Tree.Kind.CONDITIONAL_EXPRESSION);
    private static final Set<String> TYPES = Set.of("int", "long", "boolean", "void", "int[]", "int[][]",
        "java.lang.String");
    private static final Set<String> LIBRARY = Set.of("java.lang.Math.abs", "java.lang.Math.min", "java.lang.Math.max",
        "java.util.Arrays.fill", "java.lang.System.arraycopy", "java.lang.String.charAt");
    private static final Set<Tree.Kind> COMPARED = EnumSet.of(Tree.Kind.LESS_THAN, Tree.Kind.LESS_THAN_EQUAL,
        Tree.Kind.GREATER_THAN, Tree.Kind.GREATER_THAN_EQUAL, Tree.Kind.EQUAL_TO, Tree.Kind.NOT_EQUAL_TO);

    private static Trees trees;
    private static CompilationUnitTree unit;
    private static final Map<String, Set<String>> CALLS = new TreeMap<>();
    private static final Set<String> OPEN_NAMES = new TreeSet<>();
    private static final Set<String> OWN_NAMES = new TreeSet<>();

    public static void main(String[] args) throws Exception {
        JavaCompiler compiler = ToolProvider.getSystemJavaCompiler();
        try (StandardJavaFileManager files = compiler.getStandardFileManager(null, null, null)) {
            JavacTask task = (JavacTask) compiler.getTask(null, files, null, List.of("-proc:none"), null,
                files.getJavaFileObjects(Path.of("src/main/java/RingBars.java")));
            unit = task.parse().iterator().next();
            task.analyze();
            trees = Trees.instance(task);
            new Rules().scan(new TreePath(unit), null);
        }
        Set<String> both = new TreeSet<>(OWN_NAMES);
        both.retainAll(OPEN_NAMES);
        Due.is("rule 1: own methods with the name of a public one " + both, 0, both.size());
        Due.is("methods of the face", 35, OPEN_NAMES.size());
        Due.is("methods of our own were found", true, OWN_NAMES.size() > 50);
        recursion();
        depth();
        Due.close();
    }

    /** Rule 8: what calls itself is known, and each of these carries how deep it is. */
    private static void recursion() {
        Set<String> found = new TreeSet<>();
        for (String from : CALLS.keySet()) {
            if (reached(from).contains(from)) {
                found.add(from);
            }
        }
        Due.is("rule 8: methods that call themselves, over others too: " + found, true,
            found.equals(Set.of("Reader.either", "Reader.both", "Reader.part", "Reader.opened", "PassSearch.goOn",
                "PassSearch.isReached", "SetSearch.goOn")));
    }

    private static Set<String> reached(String from) {
        Set<String> reached = new LinkedHashSet<>();
        List<String> open = new ArrayList<>(CALLS.getOrDefault(from, Set.of()));
        while (!open.isEmpty()) {
            String next = open.remove(open.size() - 1);
            if (reached.add(next)) {
                open.addAll(CALLS.getOrDefault(next, Set.of()));
            }
        }
        return reached;
    }

    /** Rule 11: calls that are no recursion go at most eight deep, the library's counted too. */
    private static void depth() {
        List<String> longest = new ArrayList<>();
        for (String name : OPEN_NAMES) {
            longest(new LinkedHashSet<>(), "RingBars." + name, longest);
        }
        longest(new LinkedHashSet<>(), "RingBars.<init>", longest);
        Due.is("rule 11: calls at most eight deep " + longest, true, longest.size() <= 8);
        Due.is("calls were followed " + longest, true, longest.size() > 5);
    }

    private static void longest(LinkedHashSet<String> way, String next, List<String> longest) {
        if (!way.add(next)) {
            return;
        }
        if (way.size() > longest.size()) {
            longest.clear();
            longest.addAll(way);
        }
        for (String called : CALLS.getOrDefault(next, Set.of())) {
            longest(way, called, longest);
        }
        way.remove(next);
    }

    private static final class Rules extends TreePathScanner<Void, Void> {
        private int classes = 0;

        private String where(Tree tree) {
            long place = trees.getSourcePositions().getStartPosition(unit, tree);
            return "line " + unit.getLineMap().getLineNumber(place);
        }

        private TypeMirror typeOf(Tree tree) {
            return trees.getTypeMirror(new TreePath(getCurrentPath(), tree));
        }

        private static boolean isOwn(String type) {
            return type.equals("RingBars") || type.matches("RingBars\\.\\w+");
        }

        private String method() {
            String in = "";
            String inside = "RingBars";
            for (TreePath p = getCurrentPath(); p != null; p = p.getParentPath()) {
                if (p.getLeaf() instanceof MethodTree m && in.isEmpty()) {
                    in = m.getName().toString();
                }
                if (p.getLeaf() instanceof ClassTree c) {
                    inside = c.getSimpleName().toString();
                    break;
                }
            }
            return inside + "." + (in.isEmpty() ? "<init>" : in);
        }

        @Override
        public Void scan(Tree tree, Void none) {
            if (tree != null) {
                boolean sign = tree instanceof BinaryTree || tree instanceof CompoundAssignmentTree
                    || tree instanceof UnaryTree;
                Due.is("rules 2, 6, 10: " + tree.getKind() + " in " + where(tree), true,
                    sign || KINDS.contains(tree.getKind()) || tree.toString().equals("default"));
            }
            return super.scan(tree, none);
        }

        @Override
        public Void visitCompilationUnit(CompilationUnitTree tree, Void none) {
            super.visitCompilationUnit(tree, none);
            Due.is("rule 11: classes, " + classes, true, classes > 5 && classes <= 12);
            Due.is("one class that is not inside another", 1, tree.getTypeDecls().size());
            Due.is("no package line", true, tree.getPackageName() == null);
            return null;
        }

        @Override
        public Void visitImport(ImportTree tree, Void none) {
            Due.is("rule 4: " + tree.toString().trim(), true,
                tree.getQualifiedIdentifier().toString().equals("java.util.Arrays"));
            return null;
        }

        @Override
        public Void visitClass(ClassTree tree, Void none) {
            classes++;
            boolean outer = getCurrentPath().getParentPath().getLeaf() == unit;
            String name = tree.getSimpleName().toString();
            Set<Modifier> flags = tree.getModifiers().getFlags();
            Due.is("rule 2: class " + name + " is final", true, flags.contains(Modifier.FINAL));
            if (!outer) {
                Due.is("rule 2: class " + name + " stands in the public one", true,
                    getCurrentPath().getParentPath().getLeaf() instanceof ClassTree);
                Due.is("rule 2: class " + name + " is static", true, flags.contains(Modifier.STATIC));
                Due.is("rule 1: class " + name + " is private", true, flags.contains(Modifier.PRIVATE));
            }
            int fields = 0;
            for (Tree member : tree.getMembers()) {
                Due.is("rule 5: no block in class " + name, false, member instanceof BlockTree);
                if (member instanceof VariableTree v && !v.getModifiers().getFlags().contains(Modifier.STATIC)) {
                    fields++;
                }
            }
            Due.is("rule 11: class " + name + " has few fields, " + fields, true, fields > 0 && fields <= 20);
            return super.visitClass(tree, none);
        }

        @Override
        public Void visitMethod(MethodTree tree, Void none) {
            String name = tree.getName().toString();
            boolean open = tree.getModifiers().getFlags().contains(Modifier.PUBLIC);
            if (!name.equals("<init>")) {
                (open ? OPEN_NAMES : OWN_NAMES).add(name);
                checkType("what " + name + " answers", typeOf(tree.getReturnType()), tree);
            }
            Due.is("rule 6: " + name + " is none of Object's", false,
                Set.of("equals", "hashCode", "toString", "clone", "finalize").contains(name));
            Due.is("rule 11: " + name + " takes few, " + tree.getParameters().size(), true,
                tree.getParameters().size() <= 7);
            long from = trees.getSourcePositions().getStartPosition(unit, tree);
            long to = trees.getSourcePositions().getEndPosition(unit, tree);
            long lines = unit.getLineMap().getLineNumber(to) - unit.getLineMap().getLineNumber(from) + 1;
            Due.is("rule 11: " + name + " is short, " + lines, true, lines <= 60);
            Due.is("rule 6: " + name + " throws nothing", 0, tree.getThrows().size());
            divisors(tree);
            return super.visitMethod(tree, none);
        }

        private void checkType(String what, TypeMirror type, Tree tree) {
            String told = type.toString();
            String part = told.endsWith("[]") ? told.substring(0, told.length() - 2) : told;
            Due.is("rule 3: " + what + " is of type " + told + ", " + where(tree), true,
                TYPES.contains(told) || isOwn(part));
        }

        @Override
        public Void visitVariable(VariableTree tree, Void none) {
            checkType(tree.getName().toString(), typeOf(tree.getType()), tree);
            Set<Modifier> flags = tree.getModifiers().getFlags();
            if (flags.contains(Modifier.STATIC)) {
                Element e = trees.getElement(getCurrentPath());
                Due.is("rule 5: " + tree.getName() + " is a constant", true, flags.contains(Modifier.FINAL)
                    && e instanceof VariableElement v && v.getConstantValue() != null);
            }
            return super.visitVariable(tree, none);
        }

        @Override
        public Void visitMethodInvocation(MethodInvocationTree tree, Void none) {
            ExecutableElement e = (ExecutableElement) trees.getElement(getCurrentPath());
            String owner = e.getEnclosingElement().toString();
            String name = e.getSimpleName().toString();
            boolean made = name.equals("<init>") && owner.equals("java.lang.Object");
            if (!made) {
                Due.is("rule 4: " + owner + "." + name + " in " + where(tree), true,
                    isOwn(owner) || LIBRARY.contains(owner + "." + name));
                CALLS.computeIfAbsent(method(), k -> new TreeSet<>())
                    .add(owner.replaceAll(".*\\.", "") + "." + name);
            }
            if (owner.equals("java.util.Arrays")) {
                Due.is("rule 4: Arrays.fill over numbers", true, e.getParameters().get(0).asType().toString()
                    .equals("int[]"));
            }
            if (owner.equals("java.lang.Math")) {
                Due.is("rule 4: Math over int and long", true,
                    Set.of("int", "long").contains(e.getReturnType().toString()));
            }
            return super.visitMethodInvocation(tree, none);
        }

        @Override
        public Void visitNewClass(NewClassTree tree, Void none) {
            String type = typeOf(tree).toString();
            Due.is("rule 4: new " + type, true, isOwn(type));
            Due.is("rule 2: new " + type + " has no body", true, tree.getClassBody() == null);
            CALLS.computeIfAbsent(method(), k -> new TreeSet<>()).add(type.replaceAll(".*\\.", "") + ".<init>");
            Due.is("rule 12: new " + type + " in " + method(), true,
                method().endsWith("<init>") || method().equals("RingBars.image"));
            return super.visitNewClass(tree, none);
        }

        @Override
        public Void visitNewArray(NewArrayTree tree, Void none) {
            Due.is("rule 12: a row is made in " + method(), true, method().endsWith("<init>"));
            Due.is("rule 3: a row of at most two dimensions", true, tree.getDimensions().size() <= 2);
            for (ExpressionTree length : tree.getDimensions()) {
                Due.is("rule 7: its length is constant, " + where(tree), true, isConstant(length));
            }
            return super.visitNewArray(tree, none);
        }

        @Override
        public Void visitTypeCast(TypeCastTree tree, Void none) {
            Due.is("rule 6: a cast among numbers, " + where(tree), true, typeOf(tree).getKind().isPrimitive()
                && typeOf(tree.getExpression()).getKind().isPrimitive());
            return super.visitTypeCast(tree, none);
        }

        @Override
        public Void visitLiteral(LiteralTree tree, Void none) {
            if (tree.getValue() instanceof String text) {
                Due.is("rule 4: signs of a text, " + where(tree), true, text.chars().allMatch(c -> c > 0 && c < 128));
            }
            return null;
        }

        /** Rule 6: never between two texts; joining texts by + is none of it (rule 10). */
        @Override
        public Void visitBinary(BinaryTree tree, Void none) {
            TypeKind left = typeOf(tree.getLeftOperand()).getKind();
            TypeKind right = typeOf(tree.getRightOperand()).getKind();
            boolean compares = tree.getKind() == Tree.Kind.EQUAL_TO || tree.getKind() == Tree.Kind.NOT_EQUAL_TO;
            Due.is("rules 6, 10: " + tree + " in " + where(tree), true, left.isPrimitive() && right.isPrimitive()
                || compares && right == TypeKind.NULL && isOwn(typeOf(tree.getLeftOperand()).toString()));
            return super.visitBinary(tree, none);
        }

        @Override
        public Void visitForLoop(ForLoopTree tree, Void none) {
            Due.is("rule 9: a bound in " + where(tree), true,
                tree.getCondition() != null && hasComparison(tree.getCondition()));
            Due.is("rule 9: one counter in " + where(tree), 1, tree.getUpdate().size());
            Set<String> changed = changedIn(tree.getStatement());
            changed.retainAll(tree.getUpdate().isEmpty() ? Set.of() : namesOf(tree.getUpdate().get(0)));
            Due.is("rule 9: the counter is left alone in " + where(tree) + " " + changed, 0, changed.size());
            return super.visitForLoop(tree, none);
        }

        @Override
        public Void visitWhileLoop(WhileLoopTree tree, Void none) {
            Due.is("rule 9: a bound in " + where(tree), true, hasComparison(tree.getCondition()));
            return super.visitWhileLoop(tree, none);
        }

        private static Set<String> changedIn(Tree body) {
            Set<String> changed = new TreeSet<>();
            new TreeScanner<Void, Void>() {
                @Override
                public Void visitAssignment(AssignmentTree tree, Void none) {
                    changed.add(tree.getVariable().toString());
                    return super.visitAssignment(tree, none);
                }

                @Override
                public Void visitCompoundAssignment(CompoundAssignmentTree tree, Void none) {
                    changed.add(tree.getVariable().toString());
                    return super.visitCompoundAssignment(tree, none);
                }

                @Override
                public Void visitUnary(UnaryTree tree, Void none) {
                    if (tree.getKind().name().endsWith("CREMENT")) {
                        changed.add(tree.getExpression().toString());
                    }
                    return super.visitUnary(tree, none);
                }
            }.scan(body, null);
            return changed;
        }

        private static boolean hasComparison(Tree condition) {
            boolean[] found = new boolean[1];
            new TreeScanner<Void, Void>() {
                @Override
                public Void visitBinary(BinaryTree tree, Void none) {
                    found[0] |= tree.getKind() == Tree.Kind.LESS_THAN || tree.getKind() == Tree.Kind.LESS_THAN_EQUAL
                        || tree.getKind() == Tree.Kind.GREATER_THAN_EQUAL;
                    return super.visitBinary(tree, none);
                }
            }.scan(condition, null);
            return found[0];
        }

        private static boolean isConstant(ExpressionTree tree) {
            ExpressionTree bare = tree instanceof ParenthesizedTree p ? p.getExpression() : tree;
            if (bare instanceof BinaryTree b) {
                return isConstant(b.getLeftOperand()) && isConstant(b.getRightOperand());
            }
            return bare instanceof LiteralTree || bare.toString().matches("(\\w+\\.)?[A-Z_]+");
        }

        /** Rule 7: a divisor is a constant, or its method compares what it is made of. */
        private void divisors(MethodTree method) {
            Set<String> compared = new TreeSet<>();
            List<ExpressionTree> found = new ArrayList<>();
            new TreeScanner<Void, Void>() {
                @Override
                public Void visitBinary(BinaryTree tree, Void none) {
                    if (COMPARED.contains(tree.getKind())) {
                        compared.addAll(namesOf(tree));
                    }
                    if (tree.getKind() == Tree.Kind.DIVIDE || tree.getKind() == Tree.Kind.REMAINDER) {
                        found.add(tree.getRightOperand());
                    }
                    return super.visitBinary(tree, none);
                }

                @Override
                public Void visitCompoundAssignment(CompoundAssignmentTree tree, Void none) {
                    if (tree.getKind() == Tree.Kind.DIVIDE_ASSIGNMENT
                            || tree.getKind() == Tree.Kind.REMAINDER_ASSIGNMENT) {
                        found.add(tree.getExpression());
                    }
                    return super.visitCompoundAssignment(tree, none);
                }
            }.scan(method, null);
            for (ExpressionTree divisor : found) {
                Due.is("rule 7: divisor " + divisor + " is looked at in " + where(divisor), true,
                    isConstant(divisor) && !divisor.toString().equals("0")
                        || !namesOf(divisor).isEmpty() && compared.containsAll(namesOf(divisor)));
            }
        }

        private static Set<String> namesOf(Tree tree) {
            Set<String> names = new TreeSet<>();
            new TreeScanner<Void, Void>() {
                @Override
                public Void visitIdentifier(IdentifierTree name, Void none) {
                    names.add(name.getName().toString());
                    return null;
                }

                @Override
                public Void visitMemberSelect(MemberSelectTree name, Void none) {
                    names.add(name.toString());
                    return null;
                }
            }.scan(tree, null);
            return names;
        }
    }
}
