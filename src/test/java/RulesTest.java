import com.sun.source.tree.CompilationUnitTree;
import com.sun.source.tree.Tree;
import com.sun.source.util.JavacTask;
import com.sun.source.util.Trees;
import java.io.IOException;
import java.nio.file.Path;
import java.util.List;
import java.util.Set;
import java.util.TreeSet;
import javax.tools.JavaCompiler;
import javax.tools.StandardJavaFileManager;
import javax.tools.ToolProvider;

/** The rules of LANGUAGE.md that the compiler's own tree of the program can tell. */
public final class RulesTest {
    private static final String PROGRAM = "src/main/java/PromiseScopes.java";
    private static final int MOST_DEPTH = 8;
    private static final int MOST_LINES = 60;
    private static final Set<String> LIBRARY = Set.of(
            "java.lang.Math.min(int,int)", "java.lang.Long.bitCount(long)");
    private static final Set<String> EXCEPTIONS = Set.of("java.lang.IllegalArgumentException",
            "java.lang.IllegalStateException", "java.lang.UnsupportedOperationException");
    private static final Set<Tree.Kind> FORBIDDEN = Set.of(Tree.Kind.LAMBDA_EXPRESSION, Tree.Kind.MEMBER_REFERENCE,
            Tree.Kind.TRY, Tree.Kind.SYNCHRONIZED, Tree.Kind.ASSERT, Tree.Kind.INSTANCE_OF, Tree.Kind.TYPE_CAST,
            Tree.Kind.SWITCH_EXPRESSION, Tree.Kind.IMPORT, Tree.Kind.PACKAGE, Tree.Kind.ANNOTATION);
    private static final Checks CHECKS = new Checks();

    private RulesTest() {
    }

    public static void main(String[] args) throws IOException {
        ProgramTree program = read();
        theNest(program);
        theLibrary(program);
        theExceptions(program);
        theLoops(program);
        theMethods(program);
        CHECKS.end();
    }

    private static ProgramTree read() throws IOException {
        JavaCompiler compiler = ToolProvider.getSystemJavaCompiler();
        try (StandardJavaFileManager files = compiler.getStandardFileManager(null, null, null)) {
            JavacTask task = (JavacTask) compiler.getTask(null, files, null, List.of("-proc:none"), null,
                    files.getJavaFileObjects(Path.of(PROGRAM)));
            CompilationUnitTree unit = task.parse().iterator().next();
            task.analyze();
            ProgramTree program = new ProgramTree(Trees.instance(task), unit);
            program.scan(unit, null);
            return program;
        }
    }

    private static void theNest(ProgramTree program) {
        CHECKS.yes("rule 11: some twelve classes: " + program.classes, program.classes <= 12);
        CHECKS.same("rule 2: local or anonymous classes", program.localClasses.toString(), "[]");
        Set<Tree.Kind> found = new TreeSet<>(program.kinds);
        found.retainAll(FORBIDDEN);
        CHECKS.same("rules 2 and 6: what the program does without", found.toString(), "[]");
        CHECKS.same("rule 3: types beside numbers, texts, own classes and their arrays of one dimension",
                program.strangeTypes.toString(), "[]");
        CHECKS.same("rule 10: texts joined by +", program.joinedTexts.toString(), "[]");
    }

    private static void theLibrary(ProgramTree program) {
        Set<String> used = new TreeSet<>(program.libraryCalls);
        used.removeAll(LIBRARY);
        CHECKS.same("rules 4 and 13: calls of the library", used.toString(), "[]");
    }

    private static void theExceptions(ProgramTree program) {
        CHECKS.same("rule 6: throws without new and a written text", program.strangeThrows.toString(), "[]");
        CHECKS.yes("rule 6: " + program.thrown, EXCEPTIONS.containsAll(program.thrown));
        CHECKS.same("rule 6: throws outside the face or beyond its throws clause",
                program.undeclaredThrows.toString(), "[]");
    }

    private static void theLoops(ProgramTree program) {
        CHECKS.same("rule 9: loops without a condition", program.endlessLoops.toString(), "[]");
        CHECKS.same("rule 12: objects made in loops", program.madeInLoops.toString(), "[]");
    }

    private static void theMethods(ProgramTree program) {
        program.lines.forEach((method, lines) ->
                CHECKS.yes("rule 11: " + method + " has " + lines + " lines", lines <= MOST_LINES));
        for (String method : program.faceMethods) {
            List<String> deepest = program.deepestFrom(method);
            CHECKS.yes("rule 11: goes " + deepest.size() + " deep: " + deepest, deepest.size() <= MOST_DEPTH);
        }
        CHECKS.same("rule 8: methods that call themselves in the end", program.recursive.toString(), "[]");
        CHECKS.yes("the face was found", program.faceMethods.size() == 21);
    }
}
