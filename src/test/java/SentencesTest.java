import java.io.IOException;
import java.lang.reflect.Method;
import java.util.BitSet;
import java.util.List;
import java.util.regex.Matcher;
import java.util.regex.Pattern;

/** Holds the tests of edges against the document: their words are its own, and no finding or bound is left out. */
public final class SentencesTest {
    private static final List<Class<? extends Edges>> EDGES = List.of(WhoAndWhereEdgesTest.class, TextEdgesTest.class,
        SignEdgesTest.class, PointEdgesTest.class, SecretEdgesTest.class, ToldEdgesTest.class, RefusedEdgesTest.class);
    private static final int PROMISES = 35;
    /** A finding, a bound of how many, or from where to where. */
    private static final Pattern EDGE = Pattern.compile("\\b(?:BEYOND|NONE|STATE|FULL|KIND)\\b|at most|\\d \\.\\. \\d");

    private static int wrong = 0;

    private static void must(boolean holds, String what) {
        if (!holds) {
            wrong++;
            System.out.println("does not hold: " + what);
        }
    }

    /** Marks the places of the document that a test names, and looks at each test's words. */
    private static BitSet named(String document) {
        BitSet named = new BitSet();
        BitSet promises = new BitSet();
        for (Class<? extends Edges> edges : EDGES) {
            for (Method test : Edges.testsOf(edges)) {
                Says says = test.getAnnotation(Says.class);
                must(document.contains(says.value()), "in the document: " + says.value());
                promises.set(says.promise());
                for (int at = document.indexOf(says.value()); at >= 0; at = document.indexOf(says.value(), at + 1)) {
                    named.set(at, at + says.value().length());
                }
            }
        }
        for (int promise = 1; promise <= PROMISES; promise++) {
            must(promises.get(promise), "a test for promise " + promise);
        }
        return named;
    }

    private static void lookAtEdges(String document, BitSet named) {
        Matcher edge = EDGE.matcher(document);
        int from = document.indexOf("## Terms");
        int to = document.indexOf("## Not promised");
        while (edge.find()) {
            boolean isTold = edge.start() >= from && edge.start() < to;
            String around = document.substring(Math.max(0, edge.start() - 60), Math.min(document.length(), edge.end() + 20));
            must(!isTold || named.get(edge.start()), "a test for \"" + edge.group() + "\" in: " + around);
        }
    }

    private static void printUnnamed(String document, BitSet named) {
        int at = named.nextClearBit(0);
        while (at < document.length()) {
            int end = named.nextSetBit(at) < 0 ? document.length() : named.nextSetBit(at);
            System.out.println("no test names: " + document.substring(at, end));
            at = named.nextClearBit(end);
        }
    }

    public static void main(String[] args) throws IOException {
        String document = Edges.document();
        BitSet named = named(document);
        lookAtEdges(document, named);
        if (args.length > 0) {
            printUnnamed(document, named);
        }
        System.out.println(wrong == 0 ? "the tests of edges name all that they must" : wrong + " are left out");
        if (wrong > 0) {
            System.exit(1);
        }
    }
}
