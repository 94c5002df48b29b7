import java.io.IOException;
import java.lang.reflect.InvocationTargetException;
import java.lang.reflect.Method;
import java.nio.file.Files;
import java.nio.file.Path;
import java.util.ArrayList;
import java.util.Comparator;
import java.util.List;

/** What the tests of the document's edges share: an object that is new for each test, and ways to fill it. */
abstract class Edges {
    static final int BEYOND = -1000001;
    static final int NONE = -1000002;
    static final int STATE = -1000003;
    static final int FULL = -1000004;
    static final int KIND = -1000005;
    static final int LEAST = Integer.MIN_VALUE;
    static final int GREATEST = Integer.MAX_VALUE;
    /** No number of anything, nor a day, minute or set of faults. */
    static final int[] FAR = {LEAST, LEAST + 1, -1000001, -1000, -2, 1000000, 1 << 30, GREATEST - 1, GREATEST};
    static final int[] NO_DAYS = {-1, 10000, LEAST, GREATEST};

    private static final Path DOCUMENT = Path.of("../shared/DOC.md");

    Asked x = new Asked();
    private String sentence = "";
    private int wrong = 0;

    final void due(int want, int got, String what) {
        if (got != want) {
            wrong++;
            System.out.println(sentence + "\n  " + what + ": answered " + got + ", due is " + want);
        }
    }

    /** The same answer is due of each of some calls that differ in one argument. */
    final void dueOfEach(int want, int[] values, String name, int place, int... arguments) {
        for (int value : values) {
            int[] a = arguments.clone();
            a[place] = value;
            due(want, x.call(name, a), new Call(name, a).toString());
        }
    }

    final void fresh() {
        x = new Asked();
    }

    /** So many garages that never shut, with a tester at each. */
    final void garages(int many) {
        for (int i = 0; i < many; i++) {
            due(i, x.garage(0, 1440), "a garage for the test");
            due(i, x.tester(i), "a tester for the test");
        }
    }

    /** Vehicles of these kinds, of make 0 and built on day 0. */
    final void vehicles(int... kinds) {
        for (int i = 0; i < kinds.length; i++) {
            due(i, x.vehicle(kinds[i], 0, 0), "a vehicle for the test");
        }
    }

    final void feed(String rows) {
        for (int i = 0; i < rows.length(); i++) {
            x.feed(rows.charAt(i));
        }
    }

    final int text(int day, String rows) {
        feed(rows);
        return x.text(day);
    }

    /** A call that asks of one test: ahead of the first one, of none on both sides, and of one without anything strange. */
    final void asksOfOneTest(String name, int want) {
        garages(1);
        vehicles(1);
        due(BEYOND, x.call(name, 0), "ahead of the first test");
        trial().on(x);
        dueOfEach(BEYOND, new int[] {-1, 1, 80}, name, 0, 0);
        dueOfEach(BEYOND, FAR, name, 0, 0);
        due(want, x.call(name, 0), "the first test");
        trial().day(9999).on(x);
        due(BEYOND, x.call(name, 2), "behind the last test");
        due(want, x.call(name, 1), "the last test");
    }

    /** A call that asks of a tester on a day: of no tester, on no day, and of testers without tests or moves. */
    final void asksOfATesterOnADay(String name, int wantOfLast) {
        due(BEYOND, x.call(name, 0, 0), "ahead of the first tester");
        garages(2);
        dueOfEach(BEYOND, new int[] {-1, 2, 8}, name, 0, 0, 0);
        dueOfEach(BEYOND, FAR, name, 0, 0, 0);
        dueOfEach(BEYOND, NO_DAYS, name, 1, 0, 0);
        dueOfEach(BEYOND, FAR, name, 1, 0, 0);
        due(0, x.call(name, 0, 0), "the first tester on the first day");
        due(wantOfLast, x.call(name, 1, 9999), "the last tester on the last day");
    }

    static Trial trial() {
        return new Trial();
    }

    private static boolean isEdge(Method method) {
        return method.isAnnotationPresent(Says.class);
    }

    static List<Method> testsOf(Class<? extends Edges> one) {
        List<Method> tests = new ArrayList<>();
        for (Method method : one.getDeclaredMethods()) {
            if (isEdge(method)) {
                tests.add(method);
            }
        }
        tests.sort(Comparator.comparing((Method m) -> m.getAnnotation(Says.class).promise())
            .thenComparing(Method::getName));
        return tests;
    }

    /** The document with one space wherever it goes to a new line. */
    static String document() throws IOException {
        return Files.readString(DOCUMENT).replaceAll("\\s+", " ");
    }

    /** Runs one test on a new object: how many answers were wrong. */
    private static int run(Class<? extends Edges> one, Method test) throws ReflectiveOperationException {
        Edges edges = one.getDeclaredConstructor().newInstance();
        Says says = test.getAnnotation(Says.class);
        edges.sentence = "promise " + says.promise() + ", " + test.getName() + ", \"" + says.value() + "\"";
        try {
            test.invoke(edges);
        } catch (InvocationTargetException thrown) {
            System.out.println(edges.sentence);
            thrown.getCause().printStackTrace(System.out);
            edges.wrong++;
        }
        return edges.wrong;
    }

    static void runAll(Class<? extends Edges> one) throws ReflectiveOperationException {
        int wrong = 0;
        List<Method> tests = testsOf(one);
        for (Method test : tests) {
            wrong += run(one, test);
        }
        System.out.println(wrong == 0 ? tests.size() + " sentences hold" : wrong + " answers are not as due");
        if (wrong > 0 || tests.isEmpty()) {
            System.exit(1);
        }
    }
}
