import java.io.IOException;
import java.lang.reflect.Constructor;
import java.lang.reflect.Field;
import java.lang.reflect.Method;
import java.lang.reflect.Modifier;
import java.nio.file.Files;
import java.nio.file.Path;
import java.util.ArrayList;
import java.util.List;
import java.util.Set;
import java.util.TreeSet;
import java.util.regex.Pattern;
import java.util.stream.Collectors;
import java.util.stream.Stream;

/** The public face of the document, and those rules of LANGUAGE.md that reflection or a search can see. */
public final class FaceTest {
    private static final String IAE = " throws IllegalArgumentException";
    private static final String ISE = " throws IllegalStateException";
    private static final String BOTH = IAE + ", IllegalStateException";
    private static final Set<String> FACE = Set.of(
            "int source()" + ISE,
            "int then(int, int, int, int, boolean)" + BOTH,
            "int both(int, int, int, int, int, boolean)" + BOTH,
            "int several(long, int)" + BOTH,
            "boolean complete(int, int)",
            "boolean fail(int, int)",
            "boolean cancel(int)",
            "int work(int)",
            "int join(int)" + IAE + ", UnsupportedOperationException, IllegalStateException",
            "int stage(int, int)",
            "int count(int)",
            "int open(int, int, int)" + BOTH,
            "boolean bind(int, int, int)",
            "int fork(int, int, int, int)" + BOTH,
            "boolean joinScope(int)",
            "boolean cancelScope(int)",
            "int tick(int)",
            "int scope(int, int)",
            "int bound(int, int)" + IAE,
            "int task(int, int)");
    private static final String[] FORBIDDEN = {
        "\\bimport\\b", "\\bpackage\\b", "->", "::", "\\bfinally\\b", "\\bsynchronized\\b", "\\bassert\\b",
        "\\bpublic\\b.*\\bclass\\b(?! PromiseScopes)", "\\bstatic\\s*\\{", "\\bSystem\\.(?!arraycopy)", "\\bThread\\b",
        "\\bObject\\b", "\\bhashCode\\b", "\\bnew (Random|HashMap|Thread)\\b", "Exact\\("};
    private static final Checks CHECKS = new Checks();

    private FaceTest() {
    }

    public static void main(String[] args) throws IOException {
        theFace();
        noOtherMember();
        nestedClasses();
        fields();
        methods();
        source();
        CHECKS.end();
    }

    private static String names(Class<?>[] types) {
        return Stream.of(types).map(Class::getSimpleName).collect(Collectors.joining(", "));
    }

    private static String signature(Method method) {
        String thrown = names(method.getExceptionTypes());
        return method.getReturnType().getSimpleName() + " " + method.getName() + "("
                + names(method.getParameterTypes()) + ")" + (thrown.isEmpty() ? "" : " throws " + thrown);
    }

    private static void theFace() {
        Class<?> face = PromiseScopes.class;
        CHECKS.equal("public final", face.getModifiers(), Modifier.PUBLIC | Modifier.FINAL);
        CHECKS.yes("no superclass", face.getSuperclass() == Object.class);
        CHECKS.equal("interfaces", face.getInterfaces().length, 0);
        Set<String> publicOnes = Stream.of(face.getDeclaredMethods()).filter(m -> Modifier.isPublic(m.getModifiers()))
                .map(FaceTest::signature).collect(Collectors.toCollection(TreeSet::new));
        CHECKS.same("the methods", publicOnes.toString(), new TreeSet<>(FACE).toString());
        Constructor<?>[] constructors = face.getDeclaredConstructors();
        CHECKS.equal("constructors", constructors.length, 1);
        CHECKS.equal("its parameters", constructors[0].getParameterCount(), 0);
        CHECKS.yes("it is public", Modifier.isPublic(constructors[0].getModifiers()));
    }

    private static void noOtherMember() {
        for (Method method : PromiseScopes.class.getDeclaredMethods()) {
            int modifiers = method.getModifiers();
            CHECKS.yes(method + " is public or private", Modifier.isPublic(modifiers) || Modifier.isPrivate(modifiers));
        }
        for (Field field : PromiseScopes.class.getDeclaredFields()) {
            boolean constant = field.getName().equals("NONE") && field.getType() == int.class;
            int due = Modifier.PUBLIC | Modifier.STATIC | Modifier.FINAL;
            CHECKS.yes(field + " is private or NONE",
                    constant ? field.getModifiers() == due : Modifier.isPrivate(field.getModifiers()));
        }
    }

    private static List<Class<?>> allClasses() {
        List<Class<?>> all = new ArrayList<>(List.of(PromiseScopes.class.getDeclaredClasses()));
        all.add(PromiseScopes.class);
        return all;
    }

    private static void nestedClasses() {
        CHECKS.yes("at most twelve classes", allClasses().size() <= 12);
        for (Class<?> nested : PromiseScopes.class.getDeclaredClasses()) {
            int modifiers = nested.getModifiers();
            CHECKS.yes(nested + " is static", Modifier.isStatic(modifiers));
            CHECKS.no(nested + " is visible", Modifier.isPublic(modifiers) || Modifier.isProtected(modifiers));
        }
    }

    private static void fields() {
        Set<Class<?>> constants = Set.of(int.class, long.class, boolean.class, char.class, String.class);
        for (Class<?> each : allClasses()) {
            int own = 0;
            for (Field field : each.getDeclaredFields()) {
                if (Modifier.isStatic(field.getModifiers())) {
                    CHECKS.yes(field + " is a constant",
                            Modifier.isFinal(field.getModifiers()) && constants.contains(field.getType()));
                } else {
                    own++;
                }
            }
            CHECKS.yes(each + " has at most twenty fields", own <= 20);
        }
    }

    private static void methods() {
        Set<String> faceNames = Stream.of(PromiseScopes.class.getMethods()).map(Method::getName)
                .collect(Collectors.toSet());
        for (Class<?> each : allClasses()) {
            for (Method method : each.getDeclaredMethods()) {
                CHECKS.no(method + " is made by the compiler", method.isSynthetic());
                CHECKS.yes(method + " takes at most seven", method.getParameterCount() <= 7);
                boolean ofFace = each == PromiseScopes.class && Modifier.isPublic(method.getModifiers());
                CHECKS.no(method + " bears a public one's name", !ofFace && faceNames.contains(method.getName()));
            }
        }
    }

    private static void source() throws IOException {
        String text = Files.readString(Path.of("src/main/java/PromiseScopes.java"));
        String code = text.replaceAll("(?s)/\\*.*?\\*/", " ").replaceAll("//.*", " ").replaceAll("\"[^\"]*\"", "\"\"");
        for (String forbidden : FORBIDDEN) {
            CHECKS.no("the program has " + forbidden, Pattern.compile(forbidden).matcher(code).find());
        }
    }
}
