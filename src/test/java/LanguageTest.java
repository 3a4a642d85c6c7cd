import com.sun.source.tree.AssertTree;
import com.sun.source.tree.BinaryTree;
import com.sun.source.tree.BlockTree;
import com.sun.source.tree.ClassTree;
import com.sun.source.tree.CompilationUnitTree;
import com.sun.source.tree.CompoundAssignmentTree;
import com.sun.source.tree.DoWhileLoopTree;
import com.sun.source.tree.ForLoopTree;
import com.sun.source.tree.ImportTree;
import com.sun.source.tree.LambdaExpressionTree;
import com.sun.source.tree.MemberReferenceTree;
import com.sun.source.tree.MethodInvocationTree;
import com.sun.source.tree.MethodTree;
import com.sun.source.tree.NewArrayTree;
import com.sun.source.tree.NewClassTree;
import com.sun.source.tree.SynchronizedTree;
import com.sun.source.tree.ThrowTree;
import com.sun.source.tree.Tree;
import com.sun.source.tree.TryTree;
import com.sun.source.tree.VariableTree;
import com.sun.source.tree.WhileLoopTree;
import com.sun.source.util.JavacTask;
import com.sun.source.util.SourcePositions;
import com.sun.source.util.TreePath;
import com.sun.source.util.TreePathScanner;
import com.sun.source.util.Trees;
import java.io.File;
import java.util.ArrayList;
import java.util.HashMap;
import java.util.HashSet;
import java.util.LinkedHashMap;
import java.util.LinkedHashSet;
import java.util.List;
import java.util.Map;
import java.util.Set;
import javax.lang.model.element.Element;
import javax.lang.model.element.ElementKind;
import javax.lang.model.element.ExecutableElement;
import javax.lang.model.element.Modifier;
import javax.lang.model.element.TypeElement;
import javax.lang.model.element.VariableElement;
import javax.lang.model.type.ArrayType;
import javax.lang.model.type.DeclaredType;
import javax.lang.model.type.TypeKind;
import javax.lang.model.type.TypeMirror;
import javax.tools.JavaCompiler;
import javax.tools.StandardJavaFileManager;
import javax.tools.ToolProvider;

/**
 * The rules of LANGUAGE.md that can be seen in the compiler's tree of the class. Stricter than them in
 * some places, as the class needs no more: no recursion at all, no object or array made in a loop but in
 * a constructor, and the library's calls are counted among those that stand open.
 */
public final class LanguageTest extends TreePathScanner<Void, Void> {
    private static final int MOST_PARAMETERS = 7, MOST_LINES = 60, MOST_OPEN = 8, MOST_CLASSES = 12, MOST_FIELDS = 20;
    private static final Set<String> LIBRARY = Set.of("java.lang.Math.max", "java.lang.Math.min",
        "java.lang.Integer.compare", "java.lang.Long.bitCount", "java.lang.System.arraycopy",
        "java.util.Arrays.copyOf", "java.util.Arrays.fill");
    private static final Set<String> OVER_NUMBERS = Set.of("java.lang.System.arraycopy", "java.util.Arrays.copyOf",
        "java.util.Arrays.fill");

    private final Trees trees;
    private final SourcePositions positions;
    private final CompilationUnitTree unit;
    private final Set<String> faults = new LinkedHashSet<>();
    private final List<TypeElement> classes = new ArrayList<>();
    private final Map<ExecutableElement, Set<ExecutableElement>> calls = new LinkedHashMap<>();
    private final Map<ExecutableElement, Integer> openBelow = new HashMap<>();
    private final Set<ExecutableElement> isOpen = new HashSet<>();

    private LanguageTest(JavacTask task, CompilationUnitTree unit) {
        this.trees = Trees.instance(task);
        this.positions = trees.getSourcePositions();
        this.unit = unit;
    }

    private void fault(int rule, Tree where, String what) {
        long line = unit.getLineMap().getLineNumber(positions.getStartPosition(unit, where));
        faults.add("rule " + rule + ", line " + line + ": " + what);
    }

    private Element element() {
        return trees.getElement(getCurrentPath());
    }

    private TypeMirror typeOf(Tree tree) {
        return trees.getTypeMirror(new TreePath(getCurrentPath(), tree));
    }

    private boolean isOwn(Element type) {
        return type.toString().startsWith("FuzzyWords");
    }

    private static boolean isNumber(TypeMirror type) {
        return type.getKind().isPrimitive() && type.getKind() != TypeKind.BOOLEAN;
    }

    /** What the class uses of rule 3's types: numbers, truths, own classes, and arrays of one dimension of them. */
    private boolean isFitting(TypeMirror type) {
        if (type.getKind() == TypeKind.ARRAY) {
            TypeMirror part = ((ArrayType) type).getComponentType();
            return part.getKind() != TypeKind.ARRAY && isFitting(part);
        }
        boolean isOwnClass = type.getKind() == TypeKind.DECLARED && isOwn(((DeclaredType) type).asElement());
        return isOwnClass || (type.getKind().isPrimitive() && type.getKind() != TypeKind.DOUBLE
            && type.getKind() != TypeKind.FLOAT);
    }

    private boolean isUnderLoop() {
        for (TreePath path = getCurrentPath(); path != null; path = path.getParentPath()) {
            Tree tree = path.getLeaf();
            if (tree instanceof MethodTree) {
                return false;
            }
            if (tree instanceof ForLoopTree || tree instanceof WhileLoopTree || tree instanceof DoWhileLoopTree) {
                return true;
            }
        }
        return false;
    }

    private ExecutableElement surroundingMethod() {
        for (TreePath path = getCurrentPath(); path != null; path = path.getParentPath()) {
            if (path.getLeaf() instanceof MethodTree) {
                return (ExecutableElement) trees.getElement(path);
            }
        }
        return null;
    }

    private void noteMade(Tree tree) {
        ExecutableElement method = surroundingMethod();
        if (method != null && method.getKind() != ElementKind.CONSTRUCTOR && isUnderLoop()) {
            fault(12, tree, "an object or an array is made in a loop");
        }
    }

    @Override
    public Void visitImport(ImportTree tree, Void none) {
        if (!tree.getQualifiedIdentifier().toString().equals("java.util.Arrays")) {
            fault(4, tree, "imports " + tree.getQualifiedIdentifier());
        }
        return super.visitImport(tree, none);
    }

    @Override
    public Void visitClass(ClassTree tree, Void none) {
        Element type = element();
        classes.add((TypeElement) type);
        boolean isInside = type.getEnclosingElement().getKind() == ElementKind.CLASS;
        if (isInside && !type.getModifiers().contains(Modifier.STATIC)) {
            fault(2, tree, tree.getSimpleName() + " is not static");
        }
        if (!isInside && type.getEnclosingElement().getKind() != ElementKind.PACKAGE) {
            fault(2, tree, "a local or anonymous class");
        }
        for (Tree member : tree.getMembers()) {
            if (member instanceof BlockTree) {
                fault(5, member, "an initialiser block");
            }
        }
        return super.visitClass(tree, none);
    }

    @Override
    public Void visitMethod(MethodTree tree, Void none) {
        ExecutableElement method = (ExecutableElement) element();
        calls.computeIfAbsent(method, key -> new LinkedHashSet<>());
        long end = positions.getEndPosition(unit, tree);
        if (end >= 0) {
            long first = unit.getLineMap().getLineNumber(positions.getStartPosition(unit, tree));
            long lines = unit.getLineMap().getLineNumber(end) - first + 1;
            if (lines > MOST_LINES) {
                fault(11, tree, tree.getName() + " has " + lines + " lines");
            }
        }
        if (tree.getParameters().size() > MOST_PARAMETERS) {
            fault(11, tree, tree.getName() + " takes " + tree.getParameters().size());
        }
        return super.visitMethod(tree, none);
    }

    @Override
    public Void visitVariable(VariableTree tree, Void none) {
        VariableElement variable = (VariableElement) element();
        if (!isFitting(variable.asType())) {
            fault(3, tree, tree.getName() + " is of " + variable.asType());
        }
        boolean isConstant = variable.getConstantValue() != null && variable.getModifiers().contains(Modifier.FINAL);
        if (variable.getModifiers().contains(Modifier.STATIC) && !isConstant) {
            fault(5, tree, tree.getName() + " is static and no constant");
        }
        return super.visitVariable(tree, none);
    }

    @Override
    public Void visitMethodInvocation(MethodInvocationTree tree, Void none) {
        ExecutableElement called = (ExecutableElement) element();
        String name = called.getEnclosingElement() + "." + called.getSimpleName();
        if (called.getKind() == ElementKind.METHOD && !isOwn(called.getEnclosingElement()) && !LIBRARY.contains(name)) {
            fault(4, tree, name + " is called");
        }
        if (OVER_NUMBERS.contains(name)) {
            for (Tree argument : tree.getArguments()) {
                TypeMirror type = typeOf(argument);
                if (type.getKind() == TypeKind.ARRAY && !isNumber(((ArrayType) type).getComponentType())) {
                    fault(4, tree, name + " over an array that is none of numbers");
                }
            }
        }
        noteCall(called);
        return super.visitMethodInvocation(tree, none);
    }

    private void noteCall(ExecutableElement called) {
        ExecutableElement caller = surroundingMethod();
        if (caller != null) {
            calls.computeIfAbsent(caller, key -> new LinkedHashSet<>()).add(called);
        }
    }

    @Override
    public Void visitNewClass(NewClassTree tree, Void none) {
        noteMade(tree);
        noteCall((ExecutableElement) element());
        return super.visitNewClass(tree, none);
    }

    @Override
    public Void visitNewArray(NewArrayTree tree, Void none) {
        noteMade(tree);
        return super.visitNewArray(tree, none);
    }

    @Override
    public Void visitForLoop(ForLoopTree tree, Void none) {
        if (tree.getCondition() == null) {
            fault(9, tree, "a loop without an end");
        }
        return super.visitForLoop(tree, none);
    }

    @Override
    public Void visitWhileLoop(WhileLoopTree tree, Void none) {
        if (tree.getCondition().toString().equals("(true)")) {
            fault(9, tree, "a loop without an end");
        }
        return super.visitWhileLoop(tree, none);
    }

    @Override
    public Void visitBinary(BinaryTree tree, Void none) {
        noteJoined(tree);
        return super.visitBinary(tree, none);
    }

    @Override
    public Void visitCompoundAssignment(CompoundAssignmentTree tree, Void none) {
        noteJoined(tree);
        return super.visitCompoundAssignment(tree, none);
    }

    private void noteJoined(Tree tree) {
        TypeMirror type = trees.getTypeMirror(getCurrentPath());
        if (type != null && type.getKind() == TypeKind.DECLARED) {
            fault(10, tree, "texts are joined by +");
        }
    }

    @Override
    public Void visitLambdaExpression(LambdaExpressionTree tree, Void none) {
        fault(2, tree, "a lambda");
        return super.visitLambdaExpression(tree, none);
    }

    @Override
    public Void visitMemberReference(MemberReferenceTree tree, Void none) {
        fault(2, tree, "a method reference");
        return super.visitMemberReference(tree, none);
    }

    @Override
    public Void visitThrow(ThrowTree tree, Void none) {
        fault(6, tree, "throw");
        return super.visitThrow(tree, none);
    }

    @Override
    public Void visitTry(TryTree tree, Void none) {
        fault(6, tree, "try");
        return super.visitTry(tree, none);
    }

    @Override
    public Void visitSynchronized(SynchronizedTree tree, Void none) {
        fault(6, tree, "synchronized");
        return super.visitSynchronized(tree, none);
    }

    @Override
    public Void visitAssert(AssertTree tree, Void none) {
        fault(6, tree, "assert");
        return super.visitAssert(tree, none);
    }

    private static boolean isOf(Element member, Modifier modifier) {
        return member.getModifiers().contains(modifier);
    }

    private void checkClasses() {
        if (classes.size() > MOST_CLASSES) {
            faults.add("rule 11: " + classes.size() + " classes");
        }
        for (TypeElement type : classes) {
            int fields = 0;
            for (Element member : type.getEnclosedElements()) {
                fields += member.getKind() == ElementKind.FIELD && !isOf(member, Modifier.STATIC) ? 1 : 0;
            }
            if (fields > MOST_FIELDS) {
                faults.add("rule 11: " + type + " has " + fields + " fields");
            }
        }
    }

    private void checkNames() {
        Set<String> face = new HashSet<>();
        for (ExecutableElement method : calls.keySet()) {
            if (isOf(method, Modifier.PUBLIC)) {
                face.add(method.getSimpleName().toString());
            }
        }
        for (ExecutableElement method : calls.keySet()) {
            boolean isPrivate = isOf(method, Modifier.PRIVATE) && method.getKind() == ElementKind.METHOD;
            if (isPrivate && face.contains(method.getSimpleName().toString())) {
                faults.add("rule 1: the private method " + method + " bears a public one's name");
            }
        }
    }

    /** The method itself, or, of an abstract one, all that stand for it. */
    private List<ExecutableElement> bodiesOf(ExecutableElement called) {
        if (!isOf(called, Modifier.ABSTRACT)) {
            return List.of(called);
        }
        List<ExecutableElement> bodies = new ArrayList<>();
        for (ExecutableElement method : calls.keySet()) {
            if (!isOf(method, Modifier.ABSTRACT) && method.toString().equals(called.toString())) {
                bodies.add(method);
            }
        }
        return bodies;
    }

    /** How many calls stand open at once from this one on, itself too. */
    private int openCalls(ExecutableElement method) {
        if (!isOpen.add(method)) {
            faults.add("rule 8: " + method + " comes to itself again");
            return 0;
        }
        if (!openBelow.containsKey(method)) {
            int most = 0;
            for (ExecutableElement called : calls.getOrDefault(method, Set.of())) {
                for (ExecutableElement body : bodiesOf(called)) {
                    most = Math.max(most, openCalls(body));
                }
            }
            openBelow.put(method, most + 1);
        }
        isOpen.remove(method);
        return openBelow.get(method);
    }

    private int checkCalls() {
        int deepest = 0;
        for (ExecutableElement method : new ArrayList<>(calls.keySet())) {
            int open = openCalls(method);
            deepest = Math.max(deepest, open);
            if (open > MOST_OPEN) {
                faults.add("rule 11: from " + method + " on " + open + " calls stand open");
            }
        }
        return deepest;
    }

    /** Another file than the class's may be named, to see what is found in it. */
    public static void main(String[] args) throws Exception {
        String source = args.length > 0 ? args[0] : "src/main/java/FuzzyWords.java";
        JavaCompiler compiler = ToolProvider.getSystemJavaCompiler();
        int wrong;
        try (StandardJavaFileManager files = compiler.getStandardFileManager(null, null, null)) {
            JavacTask task = (JavacTask) compiler.getTask(null, files, null, List.of("-proc:none"), null,
                files.getJavaFileObjects(new File(source)));
            CompilationUnitTree unit = task.parse().iterator().next();
            task.analyze();
            LanguageTest test = new LanguageTest(task, unit);
            test.scan(unit, null);
            test.checkClasses();
            test.checkNames();
            int deepest = test.checkCalls();
            test.faults.forEach(System.out::println);
            wrong = test.faults.size();
            System.out.println("LanguageTest: " + test.classes.size() + " classes, " + test.calls.size()
                + " methods, " + deepest + " calls open at most; " + wrong + " outside the rules");
        }
        if (wrong != 0) {
            System.exit(1);
        }
    }
}
