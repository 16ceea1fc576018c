import com.sun.source.tree.*;
import com.sun.source.util.JavacTask;
import com.sun.source.util.TreePath;
import com.sun.source.util.TreePathScanner;
import com.sun.source.util.Trees;
import java.io.IOException;
import java.nio.file.Path;
import java.util.HashMap;
import java.util.HashSet;
import java.util.List;
import java.util.Map;
import java.util.Set;
import java.util.TreeMap;
import java.util.TreeSet;
import javax.lang.model.element.Element;
import javax.lang.model.element.ElementKind;
import javax.lang.model.element.ExecutableElement;
import javax.lang.model.element.Modifier;
import javax.lang.model.element.TypeElement;
import javax.lang.model.type.TypeMirror;
import javax.tools.JavaCompiler;
import javax.tools.StandardJavaFileManager;
import javax.tools.ToolProvider;

/** Those rules of LANGUAGE.md that the compiler's own tree of the program shows. */
public final class LanguageTreeTest extends TreePathScanner<Void, Void> {
    private static final Set<String> PLAIN = Set.of("int", "long", "short", "byte", "char", "boolean");
    private static final Set<String> LIBRARY = Set.of("Integer.bitCount", "Integer.numberOfTrailingZeros",
            "Integer.compare", "Math.max", "Math.min", "Math.abs", "Arrays.fill", "Arrays.copyOf", "Arrays.copyOfRange",
            "System.arraycopy", "String.length", "String.charAt", "String.indexOf", "Object.<init>",
            "NoSuchElementException.<init>");
    private static final Set<Tree.Kind> NEVER = Set.of(Tree.Kind.LAMBDA_EXPRESSION, Tree.Kind.MEMBER_REFERENCE,
            Tree.Kind.SYNCHRONIZED, Tree.Kind.ASSERT, Tree.Kind.TRY, Tree.Kind.SWITCH_EXPRESSION, Tree.Kind.INSTANCE_OF,
            Tree.Kind.RECORD, Tree.Kind.YIELD, Tree.Kind.WHILE_LOOP, Tree.Kind.DO_WHILE_LOOP, Tree.Kind.ANNOTATION);
    private static final int DEEPEST = 8;

    private final Trees trees;
    private final CompilationUnitTree unit;
    private final Map<String, Set<String>> calls = new TreeMap<>();
    private final Set<String> shut = new HashSet<>();
    private int classes = 0;
    private int loops = 0;

    private LanguageTreeTest(JavacTask task, CompilationUnitTree aUnit) {
        trees = Trees.instance(task);
        unit = aUnit;
    }

    public static void main(String[] args) throws IOException {
        JavaCompiler compiler = ToolProvider.getSystemJavaCompiler();
        try (StandardJavaFileManager files = compiler.getStandardFileManager(null, null, null)) {
            JavacTask task = (JavacTask) compiler.getTask(null, files, null, List.of("-proc:none"), null,
                    files.getJavaFileObjects(Path.of(args[0])));
            CompilationUnitTree unit = task.parse().iterator().next();
            task.analyze();
            LanguageTreeTest test = new LanguageTreeTest(task, unit);
            test.scan(unit, null);
            test.close();
        }
        Check.close("LanguageTreeTest");
    }

    private void close() {
        Check.holds("rule 1: one class in the file, no package", unit.getTypeDecls().size() == 1 && unit.getPackage() == null);
        Check.holds("rule 11: classes: " + classes, classes <= 12);
        Check.due("rule 8: who calls itself", calls.keySet().stream().filter(m -> calls.get(m).contains(m)).count(), 2);
        Map<String, Integer> known = new HashMap<>();
        for (String method : calls.keySet()) {
            int depth = depthOf(method, known, new TreeSet<>());
            Check.holds("rule 11: " + method + " goes " + depth + " deep", depth <= DEEPEST);
        }
        Check.holds("the calls are seen: " + calls.size() + ", " + known.get("SealedBonds.all"),
                calls.size() > 80 && known.get("SealedBonds.all") > 5);
        Check.holds("the loops are seen: " + loops, loops > 50);
        for (String method : shut) {
            Check.holds("rule 8: " + method + " calls itself and is not private", !calls.get(method).contains(method));
        }
    }

    /** How many methods of the program stand open at once, a method that calls itself counted once. */
    private int depthOf(String method, Map<String, Integer> known, Set<String> open) {
        if (known.containsKey(method)) {
            return known.get(method);
        }
        int deepest = 0;
        open.add(method);
        for (String called : calls.getOrDefault(method, Set.of())) {
            if (!called.equals(method)) {
                Check.holds("rule 8: " + method + " and " + called + " call one another", !open.contains(called));
                deepest = Math.max(deepest, open.contains(called) ? 99 : depthOf(called, known, open));
            }
        }
        open.remove(method);
        known.put(method, deepest + 1);
        return deepest + 1;
    }

    private String at(Tree tree) {
        long start = trees.getSourcePositions().getStartPosition(unit, tree);
        return "line " + unit.getLineMap().getLineNumber(start) + ": ";
    }

    private Element element(Tree tree) {
        return trees.getElement(TreePath.getPath(unit, tree));
    }

    private static String nameOf(Element method) {
        return method.getEnclosingElement().getSimpleName() + "." + method.getSimpleName();
    }

    private static boolean isOwn(Element e) {
        Element at = e;
        while (at.getEnclosingElement() != null && at.getEnclosingElement().getKind() != ElementKind.PACKAGE) {
            at = at.getEnclosingElement();
        }
        return at.getSimpleName().contentEquals("SealedBonds");
    }

    private String methodAround() {
        for (TreePath p = getCurrentPath(); p != null; p = p.getParentPath()) {
            if (p.getLeaf() instanceof MethodTree) {
                return nameOf(trees.getElement(p));
            }
        }
        return "";
    }

    private boolean isInLoop() {
        for (TreePath p = getCurrentPath(); p != null && !(p.getLeaf() instanceof MethodTree); p = p.getParentPath()) {
            if (p.getLeaf() instanceof ForLoopTree || p.getLeaf() instanceof EnhancedForLoopTree) {
                return true;
            }
        }
        return false;
    }

    @Override
    public Void scan(Tree tree, Void nothing) {
        if (tree != null) {
            boolean overriding = tree.toString().equals("@Override");
            Check.holds(at(tree) + "rules 2, 6, 9: no " + tree.getKind(), !NEVER.contains(tree.getKind()) || overriding);
        }
        return super.scan(tree, nothing);
    }

    @Override
    public Void visitClass(ClassTree tree, Void nothing) {
        classes++;
        TypeElement it = (TypeElement) element(tree);
        boolean outer = it.getEnclosingElement().getKind() == ElementKind.PACKAGE;
        Check.holds(at(tree) + "rule 2: static", outer || it.getModifiers().contains(Modifier.STATIC));
        Check.holds(at(tree) + "rule 2: private", outer || it.getModifiers().contains(Modifier.PRIVATE));
        int fields = 0;
        for (Tree member : tree.getMembers()) {
            Check.holds(at(member) + "rule 5: no block", !(member instanceof BlockTree));
            if (member instanceof VariableTree field) {
                boolean fixed = field.getModifiers().getFlags().contains(Modifier.STATIC);
                fields += fixed ? 0 : 1;
                Check.holds(at(member) + "rule 5: final", !fixed || field.getModifiers().getFlags().contains(Modifier.FINAL));
                String type = field.getType().toString();
                Check.holds(at(member) + "rule 5: a constant of " + type,
                        !fixed || Set.of("int", "long", "boolean", "char", "String").contains(type));
            }
        }
        Check.holds(at(tree) + "rule 11: " + fields + " fields", fields <= 20);
        return super.visitClass(tree, nothing);
    }

    @Override
    public Void visitMethod(MethodTree tree, Void nothing) {
        ExecutableElement it = (ExecutableElement) element(tree);
        calls.putIfAbsent(nameOf(it), new TreeSet<>());
        if (!it.getModifiers().contains(Modifier.PRIVATE)) {
            shut.add(nameOf(it));
        }
        Check.holds(at(tree) + "rule 11: parameters", tree.getParameters().size() <= 7);
        if (tree.getBody() != null) {
            long first = trees.getSourcePositions().getStartPosition(unit, tree);
            long last = trees.getSourcePositions().getEndPosition(unit, tree);
            long lines = unit.getLineMap().getLineNumber(last) - unit.getLineMap().getLineNumber(first) + 1;
            Check.holds(at(tree) + "rule 11: " + lines + " lines", lines <= 60);
        }
        if (tree.getReturnType() != null && !tree.getReturnType().toString().equals("void")) {
            type(tree, trees.getTypeMirror(TreePath.getPath(unit, tree.getReturnType())));
        }
        return super.visitMethod(tree, nothing);
    }

    @Override
    public Void visitVariable(VariableTree tree, Void nothing) {
        type(tree, element(tree).asType());
        return super.visitVariable(tree, nothing);
    }

    private void type(Tree tree, TypeMirror type) {
        String told = type.toString();
        String base = told.endsWith("[]") ? told.substring(0, told.length() - 2) : told;
        boolean own = base.startsWith("SealedBonds.");
        boolean text = told.equals("java.lang.String") || told.equals("java.lang.StringBuilder");
        Check.holds(at(tree) + "rule 3: " + told, PLAIN.contains(base) || own || text);
    }

    @Override
    public Void visitMethodInvocation(MethodInvocationTree tree, Void nothing) {
        called(tree, trees.getElement(getCurrentPath()));
        return super.visitMethodInvocation(tree, nothing);
    }

    @Override
    public Void visitNewClass(NewClassTree tree, Void nothing) {
        called(tree, trees.getElement(getCurrentPath()));
        boolean thrown = getCurrentPath().getParentPath().getLeaf() instanceof ThrowTree;
        Check.holds(at(tree) + "rule 12: made by a constructor or for a field",
                thrown || methodAround().isEmpty() || methodAround().endsWith(".<init>"));
        return super.visitNewClass(tree, nothing);
    }

    @Override
    public Void visitNewArray(NewArrayTree tree, Void nothing) {
        Check.holds(at(tree) + "rule 12: no array made in a loop", !isInLoop());
        return super.visitNewArray(tree, nothing);
    }

    private void called(Tree tree, Element method) {
        String name = nameOf(method);
        if (isOwn(method)) {
            calls.computeIfAbsent(methodAround(), any -> new TreeSet<>()).add(name);
        } else {
            Check.holds(at(tree) + "rule 4: " + name, LIBRARY.contains(name));
        }
    }

    @Override
    public Void visitThrow(ThrowTree tree, Void nothing) {
        Check.holds(at(tree) + "rule 6: a new one", tree.getExpression() instanceof NewClassTree);
        Check.holds(at(tree) + "rule 6: not by a constructor", !methodAround().endsWith(".<init>"));
        Check.holds(at(tree) + "the document names row alone", methodAround().equals("SealedBonds.row"));
        return super.visitThrow(tree, nothing);
    }

    @Override
    public Void visitForLoop(ForLoopTree tree, Void nothing) {
        loops++;
        Check.holds(at(tree) + "rule 9: a bound and a counter",
                tree.getCondition() != null && tree.getUpdate().size() == 1 && tree.getInitializer().size() == 1);
        return super.visitForLoop(tree, nothing);
    }

    @Override
    public Void visitBinary(BinaryTree tree, Void nothing) {
        TreePath here = getCurrentPath();
        boolean texts = isText(here, tree.getLeftOperand()) || isText(here, tree.getRightOperand());
        Check.holds(at(tree) + "rules 6 and 10: no sign between texts", !texts);
        return super.visitBinary(tree, nothing);
    }

    private boolean isText(TreePath here, Tree operand) {
        TypeMirror type = trees.getTypeMirror(new TreePath(here, operand));
        return type != null && (type.toString().equals("java.lang.String") || type.toString().equals("java.lang.Integer"));
    }
}
