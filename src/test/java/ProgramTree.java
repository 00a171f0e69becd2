import com.sun.source.tree.BinaryTree;
import com.sun.source.tree.ClassTree;
import com.sun.source.tree.CompilationUnitTree;
import com.sun.source.tree.CompoundAssignmentTree;
import com.sun.source.tree.DoWhileLoopTree;
import com.sun.source.tree.EnhancedForLoopTree;
import com.sun.source.tree.ExpressionTree;
import com.sun.source.tree.ForLoopTree;
import com.sun.source.tree.LiteralTree;
import com.sun.source.tree.MethodInvocationTree;
import com.sun.source.tree.MethodTree;
import com.sun.source.tree.NewArrayTree;
import com.sun.source.tree.NewClassTree;
import com.sun.source.tree.ThrowTree;
import com.sun.source.tree.Tree;
import com.sun.source.tree.VariableTree;
import com.sun.source.tree.WhileLoopTree;
import com.sun.source.util.TreePath;
import com.sun.source.util.TreePathScanner;
import com.sun.source.util.Trees;
import java.util.ArrayList;
import java.util.EnumSet;
import java.util.LinkedHashSet;
import java.util.List;
import java.util.Map;
import java.util.Set;
import java.util.TreeMap;
import java.util.TreeSet;
import javax.lang.model.element.Element;
import javax.lang.model.element.ElementKind;
import javax.lang.model.element.ExecutableElement;
import javax.lang.model.element.Modifier;
import javax.lang.model.type.ArrayType;
import javax.lang.model.type.TypeKind;
import javax.lang.model.type.TypeMirror;

/** What the compiler knows about the program, gathered in one walk through its tree. */
final class ProgramTree extends TreePathScanner<Void, Void> {
    private static final String FACE = "PromiseScopes";

    final Set<Tree.Kind> kinds = EnumSet.noneOf(Tree.Kind.class);
    final Set<String> localClasses = new TreeSet<>();
    final Set<String> strangeTypes = new TreeSet<>();
    final Set<String> joinedTexts = new TreeSet<>();
    final Set<String> libraryCalls = new TreeSet<>();
    final Set<String> thrown = new TreeSet<>();
    final Set<String> strangeThrows = new TreeSet<>();
    final Set<String> undeclaredThrows = new TreeSet<>();
    final Set<String> endlessLoops = new TreeSet<>();
    final Set<String> madeInLoops = new TreeSet<>();
    final Set<String> faceMethods = new TreeSet<>();
    final Set<String> recursive = new TreeSet<>();
    final Map<String, Long> lines = new TreeMap<>();
    int classes;

    private final Map<String, Set<String>> calls = new TreeMap<>();
    private final Trees trees;
    private final CompilationUnitTree unit;
    private String method = "";
    private Element methodElement;
    private int loops;

    ProgramTree(Trees trees, CompilationUnitTree unit) {
        this.trees = trees;
        this.unit = unit;
    }

    /** The longest chain of the program's own methods, the given one first. */
    List<String> deepestFrom(String start) {
        return deepestFrom(start, new LinkedHashSet<>());
    }

    private List<String> deepestFrom(String start, Set<String> above) {
        List<String> deepest = List.of();
        if (!above.add(start)) {
            recursive.add(start);
            return deepest;
        }
        for (String called : calls.getOrDefault(start, Set.of())) {
            List<String> below = deepestFrom(called, above);
            deepest = below.size() > deepest.size() ? below : deepest;
        }
        above.remove(start);
        List<String> whole = new ArrayList<>(List.of(start));
        whole.addAll(deepest);
        return whole;
    }

    @Override
    public Void scan(Tree tree, Void nothing) {
        if (tree != null) {
            kinds.add(tree.getKind());
        }
        return super.scan(tree, nothing);
    }

    @Override
    public Void visitClass(ClassTree tree, Void nothing) {
        classes++;
        if (methodElement != null) {
            localClasses.add(where(tree));
        }
        return super.visitClass(tree, nothing);
    }

    @Override
    public Void visitMethod(MethodTree tree, Void nothing) {
        methodElement = element(tree);
        method = nameOf(methodElement);
        lines.put(method, lineAt(endOf(tree)) - lineAt(startOf(tree)) + 1);
        if (ownerName(methodElement).equals(FACE) && methodElement.getModifiers().contains(Modifier.PUBLIC)) {
            faceMethods.add(method);
        }
        super.visitMethod(tree, nothing);
        methodElement = null;
        return null;
    }

    @Override
    public Void visitMethodInvocation(MethodInvocationTree tree, Void nothing) {
        noteCall(element(tree));
        return super.visitMethodInvocation(tree, nothing);
    }

    @Override
    public Void visitNewClass(NewClassTree tree, Void nothing) {
        if (isOwn(element(tree))) {
            noteCall(element(tree));
        }
        noteMaking(tree);
        return super.visitNewClass(tree, nothing);
    }

    @Override
    public Void visitNewArray(NewArrayTree tree, Void nothing) {
        noteMaking(tree);
        return super.visitNewArray(tree, nothing);
    }

    @Override
    public Void visitThrow(ThrowTree tree, Void nothing) {
        if (tree.getExpression() instanceof NewClassTree made && isPlain(made)) {
            String name = typeOf(made).toString();
            thrown.add(name);
            boolean declared = ((ExecutableElement) methodElement).getThrownTypes().stream()
                    .anyMatch(type -> type.toString().equals(name));
            if (!declared || !faceMethods.contains(method) || methodElement.getKind() == ElementKind.CONSTRUCTOR) {
                undeclaredThrows.add(where(tree));
            }
        } else {
            strangeThrows.add(where(tree));
        }
        return super.visitThrow(tree, nothing);
    }

    @Override
    public Void visitVariable(VariableTree tree, Void nothing) {
        if (!isPlain(typeOf(tree))) {
            strangeTypes.add(where(tree));
        }
        return super.visitVariable(tree, nothing);
    }

    @Override
    public Void visitBinary(BinaryTree tree, Void nothing) {
        noteText(tree);
        return super.visitBinary(tree, nothing);
    }

    @Override
    public Void visitCompoundAssignment(CompoundAssignmentTree tree, Void nothing) {
        noteText(tree);
        return super.visitCompoundAssignment(tree, nothing);
    }

    @Override
    public Void visitForLoop(ForLoopTree tree, Void nothing) {
        noteCondition(tree, tree.getCondition());
        loops++;
        super.visitForLoop(tree, nothing);
        loops--;
        return null;
    }

    @Override
    public Void visitWhileLoop(WhileLoopTree tree, Void nothing) {
        noteCondition(tree, tree.getCondition());
        loops++;
        super.visitWhileLoop(tree, nothing);
        loops--;
        return null;
    }

    @Override
    public Void visitDoWhileLoop(DoWhileLoopTree tree, Void nothing) {
        noteCondition(tree, tree.getCondition());
        loops++;
        super.visitDoWhileLoop(tree, nothing);
        loops--;
        return null;
    }

    @Override
    public Void visitEnhancedForLoop(EnhancedForLoopTree tree, Void nothing) {
        loops++;
        super.visitEnhancedForLoop(tree, nothing);
        loops--;
        return null;
    }

    private void noteCall(Element called) {
        if (isOwn(called)) {
            calls.computeIfAbsent(method, name -> new TreeSet<>()).add(nameOf(called));
        } else if (called.getKind() != ElementKind.CONSTRUCTOR) {
            libraryCalls.add(nameOf(called));
        }
    }

    private void noteMaking(Tree tree) {
        if (loops > 0) {
            madeInLoops.add(where(tree));
        }
    }

    private void noteCondition(Tree loop, ExpressionTree condition) {
        String text = condition == null ? "true" : condition.toString();
        if (text.equals("true") || text.equals("(true)")) {
            endlessLoops.add(where(loop));
        }
    }

    private void noteText(Tree tree) {
        if (typeOf(tree).toString().equals("java.lang.String")) {
            joinedTexts.add(where(tree));
        }
    }

    private static boolean isPlain(NewClassTree made) {
        return made.getArguments().stream().allMatch(argument -> argument instanceof LiteralTree);
    }

    private boolean isPlain(TypeMirror type) {
        TypeMirror held = type instanceof ArrayType row ? row.getComponentType() : type;
        return held.getKind().isPrimitive() || held.toString().startsWith(FACE)
                || type.toString().equals("java.lang.String");
    }

    private static boolean isOwn(Element element) {
        return ownerName(element).startsWith(FACE);
    }

    private static String ownerName(Element element) {
        return element.getEnclosingElement().toString();
    }

    private static String nameOf(Element element) {
        return ownerName(element) + "." + element;
    }

    private Element element(Tree tree) {
        return trees.getElement(new TreePath(getCurrentPath(), tree));
    }

    private TypeMirror typeOf(Tree tree) {
        TypeMirror type = trees.getTypeMirror(new TreePath(getCurrentPath(), tree));
        if (type == null || type.getKind() == TypeKind.ERROR) {
            throw new IllegalStateException("no type at " + where(tree));
        }
        return type;
    }

    private String where(Tree tree) {
        return "line " + lineAt(startOf(tree));
    }

    private long startOf(Tree tree) {
        return trees.getSourcePositions().getStartPosition(unit, tree);
    }

    private long endOf(Tree tree) {
        return trees.getSourcePositions().getEndPosition(unit, tree);
    }

    private long lineAt(long position) {
        return unit.getLineMap().getLineNumber(position);
    }
}
