import java.lang.reflect.Constructor;
import java.lang.reflect.Field;
import java.lang.reflect.Method;
import java.lang.reflect.Modifier;
import java.nio.file.Files;
import java.nio.file.Path;
import java.util.Arrays;
import java.util.Set;
import java.util.TreeSet;
import java.util.regex.Pattern;
import java.util.stream.Collectors;

/** The public face, and those rules of ../shared/LANGUAGE.md that the text or the class shows. */
public final class FaceTest {
    private static final Check check = new Check();
    private static final String STATE = "IllegalStateException";
    private static final String INDEX = "IndexOutOfBoundsException";
    private static final String ARGUMENT = "IllegalArgumentException";
    private static final Set<String> IMPORTS = Set.of("java.util.Arrays", "java.util.ArrayList", "java.util.List",
            "java.util.Iterator", "java.util.NoSuchElementException");
    private static final String[] FACE = {
        "boolean fault(int,int,int,int,int,int) " + INDEX + "," + STATE + "," + ARGUMENT,
        "int piece(int,int,int,long) " + STATE + "," + ARGUMENT,
        "boolean allows(int,int,int) " + INDEX + "," + ARGUMENT,
        "boolean gang(int) " + ARGUMENT,
        "boolean need(int,int) " + INDEX + "," + ARGUMENT,
        "boolean margin(int) " + ARGUMENT,
        "boolean bow(int) " + ARGUMENT,
        "int run(int,int) " + ARGUMENT,
        "int prices(int) " + ARGUMENT,
        "long worth() " + STATE,
        "int at(int,int) " + STATE + "," + INDEX + "," + ARGUMENT,
        "boolean clear2(int) " + STATE + "," + INDEX,
        "long bound() " + STATE,
        "long price(int,int) " + STATE + "," + INDEX,
        "int salvage(int,int) " + STATE + "," + INDEX + "," + ARGUMENT,
        "int panel(int,int) " + STATE + "," + ARGUMENT,
        "boolean greatest() " + STATE,
    };

    public static void main(String[] args) throws Exception {
        face();
        classes();
        text();
        check.end("FaceTest");
    }

    private static String names(Class<?>[] types) {
        return Arrays.stream(types).map(Class::getSimpleName).collect(Collectors.joining(","));
    }

    private static void face() {
        Class<?> type = FaultRips.class;
        check.yes("public and final", Modifier.isPublic(type.getModifiers()) && Modifier.isFinal(type.getModifiers()));
        Set<String> open = new TreeSet<>();
        for (Method m : type.getDeclaredMethods()) {
            if (!Modifier.isPrivate(m.getModifiers()) && !m.isSynthetic()) {
                check.yes(m.getName() + " is public and no static", Modifier.isPublic(m.getModifiers()) && !Modifier.isStatic(m.getModifiers()));
                open.add(m.getReturnType().getSimpleName() + " " + m.getName() + "(" + names(m.getParameterTypes()) + ") "
                        + names(m.getExceptionTypes()));
            }
        }
        check.same("the methods", open.toString(), new TreeSet<>(Arrays.asList(FACE)).toString());
        for (Field f : type.getDeclaredFields()) {
            boolean isNone = f.getName().equals("NONE");
            check.yes("field " + f.getName(), isNone == Modifier.isPublic(f.getModifiers()) && isNone != Modifier.isPrivate(f.getModifiers()));
        }
        Constructor<?>[] makers = type.getDeclaredConstructors();
        check.same("one constructor", makers.length, 1);
        check.same("of three ints", names(makers[0].getParameterTypes()), "int,int,int");
    }

    private static void classes() {
        Set<String> openNames = Arrays.stream(FaultRips.class.getDeclaredMethods())
                .filter(m -> Modifier.isPublic(m.getModifiers())).map(Method::getName).collect(Collectors.toSet());
        Class<?>[] inside = FaultRips.class.getDeclaredClasses();
        check.yes("some twelve classes", inside.length < 14);
        methods(FaultRips.class, openNames);
        for (Class<?> type : inside) {
            check.yes(type.getSimpleName() + " is static", Modifier.isStatic(type.getModifiers()));
            check.no(type.getSimpleName() + " is public", Modifier.isPublic(type.getModifiers()) || Modifier.isProtected(type.getModifiers()));
            methods(type, openNames);
            long fields = Arrays.stream(type.getDeclaredFields()).filter(f -> !Modifier.isStatic(f.getModifiers())).count();
            check.yes("some twenty fields: " + type.getSimpleName(), fields <= 22);
        }
    }

    private static void methods(Class<?> type, Set<String> openNames) {
        for (Method m : type.getDeclaredMethods()) {
            check.no("a private method with a name of the face: " + m.getName(),
                    Modifier.isPrivate(m.getModifiers()) && openNames.contains(m.getName()));
            check.yes("at most seven parameters: " + m.getName(), m.getParameterCount() <= 7);
        }
    }

    private static void text() throws Exception {
        String text = Files.readString(Path.of("src/main/java/FaultRips.java"));
        String code = text.replaceAll("(?s)/\\*.*?\\*/", "").replaceAll("//[^\\n]*", "").replaceAll("\"[^\"\\n]*\"", "\"\"")
                .replaceAll("\\b(case\\b[^;{}:]*?|default\\s*)->", "");
        String[] banned = {"->", "::", "\\bfinally\\b", "\\bassert\\b", "\\bsynchronized\\b", "\\bpackage\\b",
            "Exact\\(", "\\bRandom\\b", "\\bSystem\\.(?!arraycopy)", "\\bThread\\b", "\\bhashCode\\b",
            "\\bcatch \\((Exception|Throwable|NullPointer|ArrayIndex|ClassCast|NegativeArray|ArrayStore)"};
        for (String word : banned) {
            check.no("text has " + word, Pattern.compile(word).matcher(code).find());
        }
        check.same("other imports", Pattern.compile("import ([^;]*);").matcher(code).results().map(r -> r.group(1))
                .filter(name -> !IMPORTS.contains(name)).collect(Collectors.joining(" ")), "");
        check.yes("characters 0 to 255", text.chars().allMatch(c -> c < 256));
    }
}
