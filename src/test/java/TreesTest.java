import com.sun.source.tree.ArrayAccessTree;
import com.sun.source.tree.BinaryTree;
import com.sun.source.tree.ClassTree;
import com.sun.source.tree.CompilationUnitTree;
import com.sun.source.tree.CompoundAssignmentTree;
import com.sun.source.tree.ConditionalExpressionTree;
import com.sun.source.tree.ExpressionTree;
import com.sun.source.tree.ForLoopTree;
import com.sun.source.tree.MethodInvocationTree;
import com.sun.source.tree.MethodTree;
import com.sun.source.tree.NewClassTree;
import com.sun.source.tree.Tree;
import com.sun.source.tree.VariableTree;
import com.sun.source.util.JavacTask;
import com.sun.source.util.TreePathScanner;
import com.sun.source.util.Trees;
import java.io.IOException;
import java.nio.file.Path;
import java.util.Collections;
import java.util.EnumSet;
import java.util.HashMap;
import java.util.HashSet;
import java.util.LinkedHashSet;
import java.util.List;
import java.util.Map;
import java.util.Set;
import javax.lang.model.element.Element;
import javax.lang.model.element.ElementKind;
import javax.lang.model.element.ExecutableElement;
import javax.lang.model.element.Modifier;
import javax.lang.model.element.TypeElement;
import javax.lang.model.element.VariableElement;
import javax.lang.model.type.TypeMirror;
import javax.tools.JavaCompiler;
import javax.tools.StandardJavaFileManager;
import javax.tools.ToolProvider;

/** Rules of ../shared/LANGUAGE.md that take the compiler's own reading of the class; some are kept more strictly. */
public final class TreesTest extends TreePathScanner<Void, Void> {
    private static final int MOST_CLASSES = 12;
    private static final int MOST_FIELDS = 20;
    private static final int MOST_PARAMETERS = 7;
    private static final int DEEPEST = 8;

    private static final Set<Tree.Kind> LEFT_OUT = EnumSet.of(
        Tree.Kind.LAMBDA_EXPRESSION, Tree.Kind.MEMBER_REFERENCE, Tree.Kind.TRY, Tree.Kind.CATCH, Tree.Kind.THROW,
        Tree.Kind.SYNCHRONIZED, Tree.Kind.ASSERT, Tree.Kind.ANNOTATION, Tree.Kind.WHILE_LOOP, Tree.Kind.DO_WHILE_LOOP,
        Tree.Kind.ENHANCED_FOR_LOOP, Tree.Kind.INSTANCE_OF, Tree.Kind.SWITCH_EXPRESSION, Tree.Kind.ENUM,
        Tree.Kind.INTERFACE, Tree.Kind.RECORD, Tree.Kind.PARAMETERIZED_TYPE);

    private static final Set<String> LIBRARY = Set.of(
        "java.lang.String.indexOf(int)", "java.lang.Math.max(int,int)", "java.lang.Math.min(int,int)",
        "java.lang.Integer.bitCount(int)", "java.util.Arrays.fill(int[],int)",
        "java.lang.System.arraycopy(java.lang.Object,int,java.lang.Object,int,int)", "java.lang.Object.Object()");

    private static final Set<String> FIELD_TYPES = Set.of("int", "long", "boolean", "char", "java.lang.String",
        "int[]", "long[]", "char[]", "byte[]");

    private final Check check = new Check("TreesTest");
    private final Trees trees;
    private final Set<String> publicNames = new HashSet<>();
    private final Map<Element, Set<Element>> calls = new HashMap<>();
    private final Map<Element, Integer> depths = new HashMap<>();
    private int classes;
    private String method = "";
    private Element caller;

    private TreesTest(Trees trees) {
        this.trees = trees;
    }

    public static void main(String[] args) throws IOException {
        JavaCompiler compiler = ToolProvider.getSystemJavaCompiler();
        try (StandardJavaFileManager files = compiler.getStandardFileManager(null, null, null)) {
            JavacTask task = (JavacTask) compiler.getTask(null, files, null, List.of("--release", "17"), null,
                files.getJavaFileObjects(Path.of("src/main/java/WordMaze.java")));
            TreesTest test = new TreesTest(Trees.instance(task));
            Iterable<? extends CompilationUnitTree> units = task.parse();
            task.analyze();
            for (CompilationUnitTree unit : units) {
                test.scan(unit, null);
            }
            test.depthsOfCalls();
            test.check.due("classes are at most " + MOST_CLASSES, test.classes <= MOST_CLASSES ? 1 : 0, 1);
            test.check.end();
        }
    }

    private void yes(String what, boolean answer) {
        check.due(what, answer ? 1 : 0, 1);
    }

    private Element element() {
        return trees.getElement(getCurrentPath());
    }

    private TypeMirror type(Tree tree) {
        return trees.getTypeMirror(trees.getPath(getCurrentPath().getCompilationUnit(), tree));
    }

    private boolean isOfTheFile(Element element) {
        return element.toString().equals("WordMaze") || element.getEnclosingElement() instanceof TypeElement
            && isOfTheFile(element.getEnclosingElement());
    }

    @Override
    public Void scan(Tree tree, Void none) {
        if (tree != null) {
            yes("no " + tree.getKind() + " in " + method, !LEFT_OUT.contains(tree.getKind()));
        }
        return super.scan(tree, none);
    }

    @Override
    public Void visitClass(ClassTree tree, Void none) {
        classes++;
        Element element = element();
        boolean outer = element.toString().equals("WordMaze");
        boolean inside = element.getEnclosingElement() instanceof TypeElement;
        yes(element + " is a class of the file or static inside it",
            outer || inside && element.getModifiers().contains(Modifier.STATIC));
        int fields = 0;
        for (Element member : element.getEnclosedElements()) {
            boolean constant = member.getModifiers().contains(Modifier.STATIC);
            fields += member.getKind() == ElementKind.FIELD && !constant ? 1 : 0;
            if (outer && member.getModifiers().contains(Modifier.PUBLIC)) {
                publicNames.add(member.getSimpleName().toString());
            }
        }
        for (Tree member : tree.getMembers()) {
            yes(element + " has no block of its own", member.getKind() != Tree.Kind.BLOCK);
        }
        yes(element + " has at most " + MOST_FIELDS + " fields", fields <= MOST_FIELDS);
        Element before = caller;
        caller = element;
        super.visitClass(tree, none);
        caller = before;
        return null;
    }

    @Override
    public Void visitMethod(MethodTree tree, Void none) {
        Element element = element();
        String name = tree.getName().toString();
        Set<Modifier> modifiers = element.getModifiers();
        boolean open = modifiers.contains(Modifier.PUBLIC) && publicNames.contains(name)
            && element.getEnclosingElement().toString().equals("WordMaze");
        yes(name + " bears no public name", open || name.equals("<init>") || !publicNames.contains(name));
        yes(name + " has few parameters", tree.getParameters().size() <= MOST_PARAMETERS);
        yes(name + " throws nothing", tree.getThrows().isEmpty());
        yes(name + " is plain", !modifiers.contains(Modifier.NATIVE) && !modifiers.contains(Modifier.SYNCHRONIZED));
        if (name.equals("<init>")) {
            calls.computeIfAbsent(element, key -> new LinkedHashSet<>()).add(element.getEnclosingElement());
        }
        Element before = caller;
        caller = element;
        method = tree.toString();
        super.visitMethod(tree, none);
        method = "";
        caller = before;
        return null;
    }

    @Override
    public Void visitVariable(VariableTree tree, Void none) {
        VariableElement element = (VariableElement) element();
        if (element.getModifiers().contains(Modifier.STATIC)) {
            yes(element + " is final", element.getModifiers().contains(Modifier.FINAL));
            yes(element + " is of a plain type", FIELD_TYPES.contains(element.asType().toString()));
            yes(element + " is written out", element.getConstantValue() != null
                || tree.getInitializer().getKind() == Tree.Kind.NEW_ARRAY);
        }
        String name = element.asType().toString();
        yes("the type " + name, name.matches("(int|boolean|java.lang.String)(\\[\\])?|WordMaze\\.\\w+(\\[\\])?"));
        return super.visitVariable(tree, none);
    }

    @Override
    public Void visitMethodInvocation(MethodInvocationTree tree, Void none) {
        called((ExecutableElement) element());
        return super.visitMethodInvocation(tree, none);
    }

    @Override
    public Void visitNewClass(NewClassTree tree, Void none) {
        yes("no class body in " + method, tree.getClassBody() == null);
        called((ExecutableElement) element());
        return super.visitNewClass(tree, none);
    }

    private void called(ExecutableElement element) {
        if (isOfTheFile(element.getEnclosingElement())) {
            calls.computeIfAbsent(caller, key -> new LinkedHashSet<>()).add(element);
        } else {
            String name = element.getEnclosingElement() + "." + element;
            yes("the library's " + name, LIBRARY.contains(name));
        }
    }

    @Override
    public Void visitBinary(BinaryTree tree, Void none) {
        yes("no joining by + in " + method, !type(tree).toString().equals("java.lang.String"));
        if (tree.getKind() == Tree.Kind.DIVIDE || tree.getKind() == Tree.Kind.REMAINDER) {
            yes("the divisor of " + tree, isNeverZero(tree.getRightOperand()));
        }
        return super.visitBinary(tree, none);
    }

    /** A number that is written out, or one that a condition of the same expression looked at. */
    private boolean isNeverZero(ExpressionTree divisor) {
        if (divisor.getKind() == Tree.Kind.INT_LITERAL) {
            return !divisor.toString().equals("0");
        }
        Element named = trees.getElement(trees.getPath(getCurrentPath().getCompilationUnit(), divisor));
        if (named instanceof VariableElement && ((VariableElement) named).getConstantValue() != null) {
            return !((VariableElement) named).getConstantValue().equals(0);
        }
        Tree around = getCurrentPath().getParentPath().getLeaf();
        return around instanceof ConditionalExpressionTree && ((ConditionalExpressionTree) around).getCondition()
            .toString().replaceAll("[()]", "").equals(divisor + " > 0");
    }

    @Override
    public Void visitCompoundAssignment(CompoundAssignmentTree tree, Void none) {
        yes("no joining, no dividing by " + tree, !type(tree).toString().equals("java.lang.String")
            && tree.getKind() != Tree.Kind.DIVIDE_ASSIGNMENT && tree.getKind() != Tree.Kind.REMAINDER_ASSIGNMENT);
        return super.visitCompoundAssignment(tree, none);
    }

    /** The method that uses an element looks at the length of the array. */
    @Override
    public Void visitArrayAccess(ArrayAccessTree tree, Void none) {
        String length = tree.getExpression() + ".length";
        yes("the index of " + tree, method.contains("< " + length) || method.contains(length + " > 0"));
        return super.visitArrayAccess(tree, none);
    }

    /** A counter goes up or down by one against a bound that stands in the loop's own line. */
    @Override
    public Void visitForLoop(ForLoopTree tree, Void none) {
        String line = tree.toString().split("\n")[0];
        check.due("steps of " + line, tree.getUpdate().size(), 1);
        String step = tree.getUpdate().get(0).toString().replace(";", "");
        String counter = step.replaceAll("[+-]", "");
        String bound = step.endsWith("++") ? " < | <= " : " > | >= ";
        String condition = tree.getCondition() == null ? "" : tree.getCondition().toString();
        yes("the end of " + line, condition.matches("(.*\\W)?" + counter + "(" + bound + ").*"));
        yes("the counter of " + line, !tree.getStatement().toString().matches("(?s).*\\b" + counter
            + "(\\+\\+|--| [-+*/%&|^]?= ).*"));
        return super.visitForLoop(tree, none);
    }

    private void depthsOfCalls() {
        for (Element element : List.copyOf(calls.keySet())) {
            yes(element + " is not too deep", depth(element, new HashSet<>()) <= DEEPEST);
        }
    }

    /** The methods that stand open at once, at most; a class stands for what its fields begin with. */
    private int depth(Element element, Set<Element> open) {
        if (depths.containsKey(element)) {
            return depths.get(element);
        }
        yes(element + " does not call itself", open.add(element));
        int deepest = 0;
        for (Element called : check.anyWrong() ? Collections.<Element>emptySet()
                : calls.getOrDefault(element, Collections.emptySet())) {
            deepest = Math.max(deepest, depth(called, open));
        }
        open.remove(element);
        int depth = deepest + (element instanceof TypeElement ? 0 : 1);
        depths.put(element, depth);
        return depth;
    }
}
