import com.sun.source.tree.AssertTree;
import com.sun.source.tree.BinaryTree;
import com.sun.source.tree.BlockTree;
import com.sun.source.tree.CatchTree;
import com.sun.source.tree.ClassTree;
import com.sun.source.tree.CompilationUnitTree;
import com.sun.source.tree.CompoundAssignmentTree;
import com.sun.source.tree.IdentifierTree;
import com.sun.source.tree.LambdaExpressionTree;
import com.sun.source.tree.LiteralTree;
import com.sun.source.tree.MemberReferenceTree;
import com.sun.source.tree.MemberSelectTree;
import com.sun.source.tree.MethodInvocationTree;
import com.sun.source.tree.MethodTree;
import com.sun.source.tree.NewClassTree;
import com.sun.source.tree.ParenthesizedTree;
import com.sun.source.tree.SwitchTree;
import com.sun.source.tree.SynchronizedTree;
import com.sun.source.tree.ThrowTree;
import com.sun.source.tree.Tree;
import com.sun.source.tree.TryTree;
import com.sun.source.tree.UnionTypeTree;
import com.sun.source.tree.VariableTree;
import com.sun.source.util.TreePath;
import com.sun.source.util.TreePathScanner;
import com.sun.source.util.TreeScanner;
import com.sun.source.util.Trees;
import java.util.Set;
import javax.lang.model.element.Element;
import javax.lang.model.element.ElementKind;
import javax.lang.model.element.ExecutableElement;
import javax.lang.model.element.Modifier;
import javax.lang.model.element.TypeElement;
import javax.lang.model.type.ArrayType;
import javax.lang.model.type.DeclaredType;
import javax.lang.model.type.TypeKind;
import javax.lang.model.type.TypeMirror;

/** Rules 2 to 6, 10 and 13 of LANGUAGE.md: what may stand in the program. Where a rule is wide, so is the test. */
final class LanguageRules extends TreePathScanner<Void, Void> {
    private static final Set<String> EXCEPTIONS = Set.of("java.lang.IllegalStateException",
            "java.lang.IllegalArgumentException", "java.lang.IndexOutOfBoundsException", "java.lang.ArithmeticException",
            "java.lang.UnsupportedOperationException", "java.util.NoSuchElementException", "java.lang.RuntimeException");
    private static final Set<String> TYPES = Set.of("java.lang.String", "java.lang.StringBuilder", "java.lang.Integer",
            "java.util.ArrayList", "java.util.List", "java.util.Iterator", "java.lang.Iterable", "java.lang.Comparable");
    private static final Set<String> MADE = Set.of("java.lang.String", "java.lang.StringBuilder", "java.util.ArrayList");
    private static final Set<String> CALLS = Set.of("String.length", "String.charAt", "String.isEmpty", "String.equals",
            "String.indexOf", "String.substring", "String.toCharArray", "StringBuilder.charAt",
            "StringBuilder.setCharAt", "StringBuilder.setLength", "StringBuilder.deleteCharAt", "StringBuilder.reverse",
            "StringBuilder.length", "StringBuilder.toString", "ArrayList.add", "ArrayList.get", "ArrayList.set",
            "ArrayList.remove", "ArrayList.size", "ArrayList.isEmpty", "ArrayList.clear", "ArrayList.iterator",
            "List.add", "List.get", "List.set", "List.remove", "List.size", "List.isEmpty", "List.clear",
            "List.iterator", "List.of", "Integer.intValue", "Integer.compareTo", "Iterator.next", "Iterator.hasNext",
            "Iterable.iterator", "Comparable.compareTo", "System.arraycopy", "Arrays.copyOf", "Arrays.copyOfRange",
            "Arrays.fill");
    private static final Set<String> OF_WHOLE_NUMBERS = Set.of("Integer", "Long", "Math");
    private static final Set<String> NO_NAMES = Set.of("equals", "hashCode", "toString", "finalize");

    private final Report report;
    private final Trees trees;
    private final CompilationUnitTree file;

    LanguageRules(Report report, Trees trees, CompilationUnitTree file) {
        this.report = report;
        this.trees = trees;
        this.file = file;
    }

    private void due(int rule, Tree tree, String what, boolean holds) {
        long line = file.getLineMap().getLineNumber(trees.getSourcePositions().getStartPosition(file, tree));
        report.due("rule " + rule + ", line " + line + ": " + what, holds, true);
    }

    private TypeMirror typeOf(Tree tree) {
        return trees.getTypeMirror(new TreePath(getCurrentPath(), tree));
    }

    private static boolean isFloating(TypeMirror type) {
        return type != null && (type.getKind() == TypeKind.DOUBLE || type.getKind() == TypeKind.FLOAT);
    }

    private static boolean isNumber(TypeMirror type) {
        return type.getKind().isPrimitive() && type.getKind() != TypeKind.BOOLEAN;
    }

    private static boolean isNamed(TypeMirror type, String name) {
        return type != null && type.getKind() == TypeKind.DECLARED && nameOf(type).equals(name);
    }

    private static String nameOf(TypeMirror type) {
        return ((TypeElement) ((DeclaredType) type).asElement()).getQualifiedName().toString();
    }

    private static boolean isOwn(Element element) {
        Element outer = element;
        while (outer.getEnclosingElement() != null && outer.getEnclosingElement().getKind() != ElementKind.PACKAGE) {
            outer = outer.getEnclosingElement();
        }
        return outer.getSimpleName().contentEquals("Chaincurves");
    }

    // ---- rule 2: the classes inside

    @Override
    public Void visitLambdaExpression(LambdaExpressionTree tree, Void none) {
        due(2, tree, "there is no lambda", false);
        return super.visitLambdaExpression(tree, none);
    }

    @Override
    public Void visitMemberReference(MemberReferenceTree tree, Void none) {
        due(2, tree, "there is no method reference", false);
        return super.visitMemberReference(tree, none);
    }

    @Override
    public Void visitClass(ClassTree tree, Void none) {
        for (Tree member : tree.getMembers()) {
            boolean isStaticBlock = member instanceof BlockTree block && block.isStatic();
            due(5, member, "there is no static initialiser block", !isStaticBlock);
        }
        return super.visitClass(tree, none);
    }

    // ---- rules 3 and 5: types and static fields

    @Override
    public Void visitVariable(VariableTree tree, Void none) {
        Element variable = trees.getElement(getCurrentPath());
        if (variable.getKind() == ElementKind.EXCEPTION_PARAMETER) {
            return super.visitVariable(tree, none);
        }
        due(3, tree, tree.getName() + " has a type that may be", mayBe(variable.asType()));
        if (variable.getModifiers().contains(Modifier.STATIC)) {
            due(5, tree, tree.getName() + " is final", variable.getModifiers().contains(Modifier.FINAL));
            due(5, tree, tree.getName() + " has a type that a static field may have", mayBeStatic(variable.asType()));
        }
        return super.visitVariable(tree, none);
    }

    private static boolean mayBe(TypeMirror type) {
        switch (type.getKind()) {
            case ARRAY:
                TypeMirror part = ((ArrayType) type).getComponentType();
                boolean isOfRows = part.getKind() == TypeKind.ARRAY;
                return isOfRows ? isNumber(((ArrayType) part).getComponentType()) : mayBe(part);
            case DECLARED:
                return isOwn(((DeclaredType) type).asElement()) || TYPES.contains(nameOf(type));
            default:
                return true;
        }
    }

    private static boolean mayBeStatic(TypeMirror type) {
        switch (type.getKind()) {
            case INT:
            case LONG:
            case BOOLEAN:
            case CHAR:
                return true;
            case ARRAY:
                TypeMirror part = ((ArrayType) type).getComponentType();
                return part.getKind() == TypeKind.BYTE || part.getKind() != TypeKind.BOOLEAN && mayBeStatic(part)
                        && !isNamed(part, "java.lang.String");
            case DECLARED:
                boolean isEnum = ((DeclaredType) type).asElement().getKind() == ElementKind.ENUM;
                return isNamed(type, "java.lang.String") || isEnum;
            default:
                return false;
        }
    }

    @Override
    public Void visitBinary(BinaryTree tree, Void none) {
        TypeMirror left = typeOf(tree.getLeftOperand());
        TypeMirror right = typeOf(tree.getRightOperand());
        switch (tree.getKind()) {
            case REMAINDER:
                due(3, tree, "there is no rest of doubles", !isFloating(left) && !isFloating(right));
                break;
            case PLUS:
                boolean isOfTexts = isNamed(left, "java.lang.String") || isNamed(right, "java.lang.String");
                due(10, tree, "texts are joined by StringBuilder", !isOfTexts);
                break;
            case EQUAL_TO:
            case NOT_EQUAL_TO:
                for (String name : new String[] {"java.lang.String", "java.lang.Integer"}) {
                    due(6, tree, "no == between two " + name, !isNamed(left, name) || !isNamed(right, name));
                }
                break;
            default:
                break;
        }
        return super.visitBinary(tree, none);
    }

    @Override
    public Void visitCompoundAssignment(CompoundAssignmentTree tree, Void none) {
        TypeMirror left = typeOf(tree.getVariable());
        due(10, tree, "texts are joined by StringBuilder", !isNamed(left, "java.lang.String"));
        boolean isRest = tree.getKind() == Tree.Kind.REMAINDER_ASSIGNMENT;
        due(3, tree, "there is no rest of doubles", !isRest || !isFloating(left));
        return super.visitCompoundAssignment(tree, none);
    }

    // ---- rules 4 and 13: the library

    @Override
    public Void visitLiteral(LiteralTree tree, Void none) {
        if (tree.getValue() instanceof String text) {
            due(4, tree, "a text's signs are 1 to 127", text.chars().allMatch(sign -> sign >= 1 && sign <= 127));
        }
        return super.visitLiteral(tree, none);
    }

    @Override
    public Void visitMethodInvocation(MethodInvocationTree tree, Void none) {
        ExecutableElement called = (ExecutableElement) trees.getElement(getCurrentPath());
        if (!isOwn(called) && called.getKind() == ElementKind.METHOD) {
            String call = receiverOf(tree, called) + "." + called.getSimpleName();
            due(4, tree, call + " may be called", mayBeCalled(call, called));
        }
        return super.visitMethodInvocation(tree, none);
    }

    /** The class of what is called, without its package; an array's is "array". */
    private String receiverOf(MethodInvocationTree tree, ExecutableElement called) {
        String name = called.getEnclosingElement().getSimpleName().toString();
        if (tree.getMethodSelect() instanceof MemberSelectTree select) {
            TreePath path = new TreePath(new TreePath(getCurrentPath(), select), select.getExpression());
            TypeMirror type = trees.getTypeMirror(path);
            if (type instanceof DeclaredType declared && !isOwn(declared.asElement())) {
                return declared.asElement().getSimpleName().toString();
            }
            return type.getKind() == TypeKind.ARRAY ? "array" : name;
        }
        return name;
    }

    private static boolean mayBeCalled(String call, ExecutableElement called) {
        String owner = call.substring(0, call.indexOf('.'));
        if (OF_WHOLE_NUMBERS.contains(owner) && called.getModifiers().contains(Modifier.STATIC)) {
            boolean isOfWhole = called.getParameters().stream().noneMatch(p -> isFloating(p.asType()) || !isNumber(p.asType()));
            return isOfWhole && !call.endsWith("Exact");
        }
        if (call.equals("StringBuilder.append")) {
            TypeMirror joined = called.getParameters().get(0).asType();
            boolean isSignOrInt = joined.getKind() == TypeKind.CHAR || joined.getKind() == TypeKind.INT;
            return isSignOrInt || isNamed(joined, "java.lang.String");
        }
        return CALLS.contains(call) || call.equals("array.clone") || owner.equals("Enum");
    }

    @Override
    public Void visitNewClass(NewClassTree tree, Void none) {
        TypeMirror type = trees.getTypeMirror(getCurrentPath());
        Element made = ((DeclaredType) type).asElement();
        boolean isThrown = getCurrentPath().getParentPath().getLeaf() instanceof ThrowTree;
        boolean mayBeMade = isOwn(made) || MADE.contains(nameOf(type)) || isThrown && EXCEPTIONS.contains(nameOf(type));
        due(4, tree, "a new " + type + " may be made", mayBeMade);
        return super.visitNewClass(tree, none);
    }

    // ---- rule 6: exceptions, and rule 10: the statements

    @Override
    public Void visitMethod(MethodTree tree, Void none) {
        Element method = trees.getElement(getCurrentPath());
        if (tree.getReturnType() != null) {
            due(3, tree, tree.getName() + " answers with a type that may be", mayBe(((ExecutableElement) method).getReturnType()));
        }
        due(6, tree, tree.getName() + " is no method of all objects", !NO_NAMES.contains(tree.getName().toString()));
        due(13, tree, tree.getName() + " is not native", !method.getModifiers().contains(Modifier.NATIVE));
        due(13, tree, tree.getName() + " is not synchronized", !method.getModifiers().contains(Modifier.SYNCHRONIZED));
        ThrowsAndTries found = new ThrowsAndTries();
        found.scan(tree.getBody(), null);
        due(6, tree, "no throw in a constructor", method.getKind() != ElementKind.CONSTRUCTOR || found.throwing == 0);
        due(6, tree, tree.getName() + " does not both throw and catch", found.throwing == 0 || found.trying == 0);
        return super.visitMethod(tree, none);
    }

    /** How many throw and try statements a method has. */
    private static final class ThrowsAndTries extends TreeScanner<Void, Void> {
        int throwing;
        int trying;

        @Override
        public Void visitThrow(ThrowTree tree, Void none) {
            throwing++;
            return super.visitThrow(tree, none);
        }

        @Override
        public Void visitTry(TryTree tree, Void none) {
            trying++;
            return super.visitTry(tree, none);
        }

        @Override
        public Void visitClass(ClassTree tree, Void none) {
            // What a class inside the method throws is thrown by its own methods.
            return null;
        }
    }

    @Override
    public Void visitThrow(ThrowTree tree, Void none) {
        boolean isWritten = false;
        if (tree.getExpression() instanceof NewClassTree made) {
            isWritten = EXCEPTIONS.contains(typeOf(made).toString()) && made.getClassBody() == null
                    && made.getArguments().stream().allMatch(text -> text.getKind() == Tree.Kind.STRING_LITERAL);
        }
        due(6, tree, "throw new E() or throw new E(\"a written text\")", isWritten);
        return super.visitThrow(tree, none);
    }

    @Override
    public Void visitTry(TryTree tree, Void none) {
        due(6, tree, "no finally", tree.getFinallyBlock() == null);
        due(6, tree, "no try with resources", tree.getResources().isEmpty());
        return super.visitTry(tree, none);
    }

    @Override
    public Void visitCatch(CatchTree tree, Void none) {
        Tree caught = tree.getParameter().getType();
        TreePath path = new TreePath(new TreePath(getCurrentPath(), tree.getParameter()), caught);
        if (caught instanceof UnionTypeTree union) {
            for (Tree one : union.getTypeAlternatives()) {
                lookAtCaught(one, new TreePath(path, one));
            }
        } else {
            lookAtCaught(caught, path);
        }
        return super.visitCatch(tree, none);
    }

    private void lookAtCaught(Tree caught, TreePath path) {
        TypeMirror type = trees.getTypeMirror(path);
        due(6, caught, type + " may be caught", EXCEPTIONS.contains(type.toString()));
    }

    @Override
    public Void visitIdentifier(IdentifierTree tree, Void none) {
        Element named = trees.getElement(getCurrentPath());
        due(6, tree, "what is caught is left alone", named == null || named.getKind() != ElementKind.EXCEPTION_PARAMETER);
        return super.visitIdentifier(tree, none);
    }

    @Override
    public Void visitSynchronized(SynchronizedTree tree, Void none) {
        due(6, tree, "nothing is synchronized", false);
        return super.visitSynchronized(tree, none);
    }

    @Override
    public Void visitAssert(AssertTree tree, Void none) {
        due(6, tree, "nothing is asserted", false);
        return super.visitAssert(tree, none);
    }

    @Override
    public Void visitSwitch(SwitchTree tree, Void none) {
        ParenthesizedTree on = (ParenthesizedTree) tree.getExpression();
        TypeMirror type = trees.getTypeMirror(new TreePath(new TreePath(getCurrentPath(), on), on.getExpression()));
        due(10, tree, "a switch is on numbers or an enum", !isNamed(type, "java.lang.String"));
        return super.visitSwitch(tree, none);
    }
}
