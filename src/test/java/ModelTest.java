import java.util.ArrayDeque;
import java.util.Arrays;
import java.util.Deque;
import java.util.Map;
import java.util.Random;
import java.util.TreeMap;

/** Random runs of calls: the class must answer each as the plain model does. */
public final class ModelTest {
    private static final int RUNS = 2000;
    private static final String[] NAMES = {"vehicle", "as", "garage", "tester", "move", "at", "test", "of", "feed",
        "text", "says", "verdict", "unlike", "rate", "share", "signs", "alike", "falls", "rule", "appeal", "points",
        "sum", "banned", "secret", "visit", "worth", "plan", "draw", "error", "leans", "tell", "check", "count",
        "found"};
    private static final int[] ODD = {Integer.MIN_VALUE, Integer.MAX_VALUE, -1, -2, -100, 1 << 30, 1000000, 10000};

    private final Random random;
    private final Deque<String> names = new ArrayDeque<>();
    private final Deque<int[]> arguments = new ArrayDeque<>();
    private final Model model = new Model();
    private int day;
    private final String favourite;
    /** In some runs the testers are of two minds, so that garages pass too many or too few. */
    private final boolean isBiased;
    private final int stride;
    private final int minuteSpan;
    private final int brakeSpan;
    private final int mileSpan;

    private ModelTest(long seed) {
        random = new Random(seed);
        favourite = NAMES[below(NAMES.length)];
        isBiased = below(3) == 0;
        stride = new int[] {1, 4, 30, 120, 400}[below(5)];
        minuteSpan = new int[] {60, 400, 1440}[below(3)];
        brakeSpan = new int[] {3, 6, 100, 1000}[below(4)];
        mileSpan = new int[] {12, 150, 3000, 1000000}[below(4)];
        int start = below(4) * 1000;
        day = start;
        int garages = 1 + below(4);
        for (int i = 0; i < garages; i++) {
            queue("garage", below(minuteSpan / 2), 700 + below(741));
        }
        for (int i = 0, n = 1 + below(4); i < n; i++) {
            queue("tester", i % garages);
        }
        for (int i = 0, n = 2 + below(6); i < n; i++) {
            queue("vehicle", below(4), below(below(2) == 0 ? 1 : 4), below(start + 1));
        }
    }

    private int below(int n) {
        return random.nextInt(n);
    }

    private void queue(String name, int... a) {
        names.add(name);
        arguments.add(a);
    }

    private int size(int what) {
        return model.call("count", what);
    }

    /** Mostly one that is there, now and then one just beyond. */
    private int one(int what) {
        int n = size(what);
        return below(30) == 0 ? n : below(40) == 0 ? -1 : n == 0 ? 0 : below(n);
    }

    private int someDay() {
        int[] days = {day, day - 1, day + 1, day - 30, day + 182, day + 183, day + 365, day + 366, day - below(400),
            below(day + 1), below(day + 1), below(10000), 0, 9999, day + 730, day + 731, -1, 10000};
        return days[below(days.length)];
    }

    private int goodDay() {
        return Math.min(9999, day);
    }

    private void next() {
        String name = NAMES[below(NAMES.length)];
        int kind = below(100);
        if (kind < 22) {
            name = "test";
        } else if (kind < 25) {
            feedText();
            return;
        } else if (kind < 35) {
            name = favourite;
        }
        int[] a = argumentsOf(name);
        if (below(60) == 0 && a.length > 0) {
            a[below(a.length)] = ODD[below(ODD.length)];
        }
        queue(name, a);
    }

    private void feedText() {
        StringBuilder rows = new StringBuilder();
        for (int i = 0, n = below(5); i < n; i++) {
            switch (below(3)) {
                case 0: rows.append('b').append(below(brakeSpan)).append(';'); break;
                case 1: rows.append('d').append(below(100)).append(';'); break;
                default: rows.append('f').append(below(8)).append("vctr".charAt(below(4))).append(';'); break;
            }
        }
        if (below(3) == 0 && rows.length() > 0) {
            int place = below(rows.length());
            switch (below(3)) {
                case 0: rows.setCharAt(place, "bdfvctr0789;: ".charAt(below(14))); break;
                case 1: rows.setLength(place); break;
                default: rows.insert(place, "bdfvctr0789;".charAt(below(12))); break;
            }
        }
        for (int i = 0; i < rows.length(); i++) {
            queue("feed", rows.charAt(i));
        }
        queue("text", below(4) == 0 ? someDay() : below(goodDay() + 1));
    }

    private int[] argumentsOf(String name) {
        switch (name) {
            case "vehicle": return new int[] {below(4), below(4), below(goodDay() + 1)};
            case "as": return new int[] {one(0), below(5) - below(2)};
            case "garage": return new int[] {below(1442) - 1, below(1442)};
            case "tester": return new int[] {one(1)};
            case "move": return new int[] {one(2), one(1), below(2) == 0 ? someDay() : goodDay()};
            case "at": return new int[] {one(2), someDay()};
            case "test": return testArguments();
            case "of": return new int[] {one(3), below(12)};
            case "feed": return new int[] {below(258) - 1};
            case "text": return new int[] {someDay()};
            case "says": return new int[] {someDay(), below(15)};
            case "rate": return new int[] {one(1), below(8)};
            case "share": return new int[] {below(5), below(3) == 0 ? below(5) : 0};
            case "rule": return ruleArguments();
            case "appeal": return new int[] {one(3), below(20) == 0 ? 2 : below(2)};
            case "sum", "banned": return new int[] {one(2), someDay()};
            case "secret": return new int[] {below(4) == 0 ? below(257) : 1 << below(8) | below(8)};
            case "visit": return new int[] {one(5), one(3)};
            case "worth": return new int[] {one(5), one(1)};
            case "plan": return new int[] {below(4) == 0 ? -1 : one(5)};
            case "draw": return new int[] {one(3), below(103), below(20) == 0 ? 2 : below(2)};
            case "error": return new int[0];
            case "leans": return new int[] {below(3) == 0 ? -1 : one(0), someDay()};
            case "tell": return tellArguments();
            case "check": return new int[] {below(10) == 0 ? someDay() : goodDay()};
            case "count": return new int[] {below(12)};
            case "found": return new int[] {below(7)};
            default: return new int[] {one(3)};
        }
    }

    private int[] testArguments() {
        day += below(3) == 0 ? 0 : below(stride + 1);
        int testDay = below(40) == 0 ? day - 1 : goodDay();
        int vehicle = one(0);
        int minutes = below(4) == 0 ? below(242) : new int[] {9, 10, 19, 20, 29, 30}[below(6)];
        int minute = below(30) == 0 ? 1440 - minutes + below(2) : below(minuteSpan);
        int tester = one(2);
        boolean isPassed = isBiased ? below(10) > 0 == (tester == 0) : below(3) > 0;
        int rest = below(40) == 0 ? 512 : (isPassed ? 256 : 0) + (below(2) == 0 ? 0 : 1 << below(8));
        boolean isTrailer = size(0) > 0 && model.call("as", Math.max(0, Math.min(vehicle, size(0) - 1)), 3) == 730;
        int miles = isTrailer && below(20) > 0 ? 0 : below(40) == 0 ? 1000000 : below(mileSpan);
        int brakes = 1000 * below(brakeSpan) + below(brakeSpan);
        return new int[] {100 * vehicle + tester, 10000 * minute + testDay, 1000 * minutes + rest, miles, brakes};
    }

    private int[] ruleArguments() {
        int what = below(20) == 0 ? 3 : below(3);
        int most = what == 0 ? 3650 : what == 1 ? 1000 : 200;
        int[] values = {0, 1, 2, most, most + 1, 1 + below(most), 1 + below(40), 1 + below(40)};
        return new int[] {what, values[below(values.length)]};
    }

    private int[] tellArguments() {
        int waiting = size(9);
        int due = waiting < size(2) ? model.call("sum", waiting, goodDay()) : below(3);
        return new int[] {below(8) == 0 ? due + 1 : due};
    }

    /** How often each call told each kind of answer, to see that the runs reach all of them. */
    private static void tally(Map<String, Integer> tally, String name, int answer) {
        String some = answer < 0 ? " answer below 0" : answer < 3 ? " answer " + answer : " answer above 2";
        String kind = answer < -1000000 ? " finding " + (-1000000 - answer) : some;
        tally.merge(name + kind, 1, Integer::sum);
    }

    private static boolean run(long seed, Map<String, Integer> tally) {
        ModelTest source = new ModelTest(seed);
        Model due = new Model();
        Asked x = new Asked();
        for (int i = 0; i < Asked.MOST_CALLS; i++) {
            while (source.names.isEmpty()) {
                source.next();
            }
            String name = source.names.poll();
            int[] a = source.arguments.poll();
            source.model.call(name, a);
            int want = due.call(name, a);
            int got = x.call(name, a);
            tally(tally, name.equals("rate") ? name + " " + a[1] : name, want);
            if (got != want) {
                System.out.println("seed " + seed + ", call " + i + ": " + name + Arrays.toString(a)
                    + " answered " + got + ", due is " + want);
                return false;
            }
        }
        return true;
    }

    public static void main(String[] args) {
        Map<String, Integer> tally = new TreeMap<>();
        int wrong = 0;
        for (long seed = 1; seed <= RUNS && wrong < 10; seed++) {
            wrong += run(seed, tally) ? 0 : 1;
        }
        if (args.length > 0) {
            tally.forEach((kind, times) -> System.out.println(kind + ": " + times));
        }
        System.out.println(wrong == 0 ? RUNS + " runs are as the model's" : wrong + " runs are not as the model's");
        if (wrong > 0) {
            System.exit(1);
        }
    }
}
