import java.io.IOException;
import java.lang.reflect.Constructor;
import java.lang.reflect.Field;
import java.lang.reflect.Method;
import java.lang.reflect.Modifier;
import java.nio.file.Files;
import java.nio.file.Path;
import java.util.Arrays;
import java.util.HashSet;
import java.util.List;
import java.util.Set;
import java.util.TreeSet;
import java.util.regex.Pattern;

/** The public face, and the rules of LANGUAGE.md that reflection and a text search can see. */
public final class LanguageTest {
    private static final Path SOURCE = Path.of("src/main/java/TradeTests.java");
    /** Every method of the document with how many ints it takes. */
    private static final String[] FACE = {"vehicle 3", "as 2", "garage 2", "tester 1", "move 3", "at 2", "test 5",
        "of 2", "feed 1", "text 1", "says 2", "verdict 1", "unlike 1", "rate 2", "share 2", "signs 1", "alike 1",
        "falls 1", "rule 2", "appeal 2", "points 1", "sum 2", "banned 2", "secret 1", "visit 2", "worth 2", "plan 1",
        "draw 3", "error 0", "leans 2", "tell 1", "check 1", "count 1", "found 1"};
    private static final String[] RULED_OUT = {"\\bthrow\\b", "\\btry\\b", "\\bcatch\\b", "\\bsynchronized\\b",
        "\\bassert\\b", "\\bpackage\\b", "\\bimport\\b", "->", "::", "Exact\\b", "\\bstatic\\s*\\{", "\\bdouble\\b",
        "\\bfloat\\b", "\\bSystem\\.(?!arraycopy)", "\\bObject\\b", "\\bThread\\b", "\\bhashCode\\b", "\\bnative\\b",
        "\\bprotected\\b", "\\bvolatile\\b", "\\bvar\\b"};
    private static final Set<Class<?>> STATIC_TYPES = Set.of(int.class, long.class, boolean.class, char.class,
        String.class, int[].class, long[].class, char[].class, byte[].class);

    private static int wrong = 0;

    private static void must(boolean holds, String what) {
        if (!holds) {
            wrong++;
            System.out.println("does not hold: " + what);
        }
    }

    private static Set<String> publicNames() {
        Set<String> names = new HashSet<>();
        for (String method : FACE) {
            names.add(method.substring(0, method.indexOf(' ')));
        }
        return names;
    }

    private static void lookAtFace() {
        Class<?> face = TradeTests.class;
        must(Modifier.isPublic(face.getModifiers()) && Modifier.isFinal(face.getModifiers()), "public and final");
        Constructor<?>[] constructors = face.getDeclaredConstructors();
        must(constructors.length == 1 && constructors[0].getParameterCount() == 0
            && Modifier.isPublic(constructors[0].getModifiers()), "one public constructor without parameters");
        Set<String> methods = new TreeSet<>();
        for (Method method : face.getDeclaredMethods()) {
            if (Modifier.isPrivate(method.getModifiers())) {
                continue;
            }
            methods.add(method.getName() + " " + method.getParameterCount());
            boolean isOfInts = method.getReturnType() == int.class
                && Arrays.stream(method.getParameterTypes()).allMatch(type -> type == int.class);
            must(Modifier.isPublic(method.getModifiers()) && !Modifier.isStatic(method.getModifiers()) && isOfInts,
                "public and of ints: " + method);
        }
        must(methods.equals(new TreeSet<>(List.of(FACE))), "the document's methods and no other: " + methods);
        for (Field field : face.getDeclaredFields()) {
            must(Modifier.isPrivate(field.getModifiers()), "private: " + field);
        }
    }

    private static void lookAtClass(Class<?> one) {
        boolean isInside = one != TradeTests.class;
        must(!isInside || Modifier.isStatic(one.getModifiers()), "static: " + one);
        must(!isInside || !Modifier.isPublic(one.getModifiers()), "not public: " + one);
        int fields = 0;
        for (Field field : one.getDeclaredFields()) {
            if (Modifier.isStatic(field.getModifiers())) {
                must(Modifier.isFinal(field.getModifiers()), "final: " + field);
                must(STATIC_TYPES.contains(field.getType()), "a constant's type: " + field);
            } else {
                fields++;
            }
        }
        must(fields <= 20, "at most twenty fields: " + one);
        Set<String> names = publicNames();
        for (Method method : one.getDeclaredMethods()) {
            must(method.getParameterCount() <= 7, "at most seven parameters: " + method);
            boolean isOfFace = !isInside && Modifier.isPublic(method.getModifiers());
            must(isOfFace || !names.contains(method.getName()), "a name of its own: " + method);
        }
    }

    private static void lookAtText() throws IOException {
        String source = Files.readString(SOURCE);
        must(source.chars().allMatch(c -> c < 128), "plain signs alone");
        String code = source.replaceAll("(?s)/\\*.*?\\*/", " ").replaceAll("//[^\n]*", " ")
            .replaceAll("\"[^\"\n]*\"", "\"\"");
        for (String word : RULED_OUT) {
            must(!Pattern.compile(word).matcher(code).find(), "not in the class: " + word);
        }
    }

    public static void main(String[] args) throws IOException {
        lookAtFace();
        Class<?>[] inside = TradeTests.class.getDeclaredClasses();
        must(inside.length + 1 <= 12, "at most twelve classes");
        lookAtClass(TradeTests.class);
        for (Class<?> one : inside) {
            lookAtClass(one);
            must(one.getDeclaredClasses().length == 0, "no class within a class inside: " + one);
        }
        lookAtText();
        System.out.println(wrong == 0 ? "the class keeps to the rules looked at" : wrong + " rules are broken");
        if (wrong > 0) {
            System.exit(1);
        }
    }
}
