import java.util.ArrayList;
import java.util.List;

/** A call that answers a finding changes nothing but what found() tells, and what the document names as gone. */
public final class RefusedEdgesTest extends Edges {
    private static final int[] SOME_DAYS = {0, 9, 10, 11, 50, 59, 60, 61, 79, 80, 365, 445, 9999};

    /** The calls that a world is made of. */
    private static final class World {
        final String name;
        final List<Call> calls = new ArrayList<>();

        World(String name) {
            this.name = name;
        }

        World add(String call, int... arguments) {
            calls.add(new Call(call, arguments));
            return this;
        }

        World feed(String rows) {
            for (char c : rows.toCharArray()) {
                add("feed", c);
            }
            return this;
        }

        Asked make() {
            Asked made = new Asked();
            for (Call call : calls) {
                call.on(made);
            }
            return made;
        }

        int size(int what) {
            return make().count(what);
        }
    }

    private static World nothing() {
        return new World("nothing told");
    }

    /** Some of all there is, and room for more. */
    private static World some() {
        World world = new World("some of all");
        world.add("vehicle", 1, 0, 0).add("vehicle", 2, 1, 5).add("vehicle", 0, 2, 0).add("vehicle", 3, 3, 0);
        world.add("garage", 0, 1440).add("garage", 480, 1080);
        world.add("tester", 0).add("tester", 1).add("move", 0, 1, 50).add("move", 0, 0, 60);
        world.feed("b300;d20;f0v;f1c;").add("text", 10);
        world.add("test", 0, 5000010, 20257, 51234, 400400).add("test", 101, 5100010, 29256, 100, 400300);
        world.add("test", 300, 5000050, 9000, 0, 400400).add("test", 0, 5000050, 20256, 41234, 400400);
        world.add("test", 201, 5000060, 30256, 7, 400401);
        world.add("secret", 7).add("secret", 129).add("visit", 0, 0).add("visit", 1, 4);
        world.add("draw", 1, 10, 1).add("draw", 3, 100, 0).add("appeal", 1, 1);
        world.add("rule", 0, 70).add("rule", 1, 20).add("rule", 2, 2);
        return world.feed("b12").add("tell", 0).add("tell", 0);
    }

    /** As many of all as there may be; no test is on day 0, so that the numbers that wait are right on it. */
    private static World full() {
        World world = new World("all is full");
        for (int i = 0; i < 24; i++) {
            world.add("vehicle", i % 4, i / 4 % 4, i);
        }
        for (int i = 0; i < 6; i++) {
            world.add("garage", 10 * i, 1440 - 10 * i).add("secret", 1 << i | 1);
            world.feed("b" + i + ";").add("text", 10 * i);
        }
        for (int i = 0; i < 8; i++) {
            world.add("tester", i % 6).add("tell", 0);
        }
        for (int i = 0; i < 30; i++) {
            world.add("move", i % 8, i % 6, 40 + i);
        }
        for (int i = 0; i < 80; i++) {
            world.add("test", 100 * (i % 20) + i % 8, 90000 * i + 1 + i, 1000 * (5 + i % 30) + 5 * i, 0, 1001 * (i % 9));
        }
        for (int i = 0; i < 6; i++) {
            world.add("visit", i, 7 * i).add("draw", 8 * i, 1 + i, i % 2);
        }
        return world.feed("b1;".repeat(20));
    }

    /** A tape without room, and room for the text that it is. */
    private static World fullTape() {
        return new World("the tape is full").feed("f7v;f6c;f5t;f4r;b987;d65;" + "b9;b8;b7;".repeat(3) + "f0v;f1c;")
            .add("tell", 0);
    }

    /** Calls that ask all there is to ask, and change nothing. */
    private static List<Call> questions(World world) {
        List<Call> asked = new ArrayList<>();
        World list = new World("questions");
        for (int what = 0; what <= 10; what++) {
            list.add("count", what);
        }
        list.add("error").add("plan", -1);
        for (int test = 0; test < world.size(3); test++) {
            for (int what = 0; what <= 10; what++) {
                list.add("of", test, what);
            }
            for (String name : new String[] {"verdict", "unlike", "signs", "alike", "falls", "points"}) {
                list.add(name, test);
            }
        }
        for (int day : SOME_DAYS) {
            askOfDay(list, world, day);
        }
        for (int age = 0; age < 4; age++) {
            for (int make = 0; make < 4; make++) {
                list.add("share", age, make);
            }
        }
        askOfGarages(list, world);
        for (int vehicle = 0; vehicle < world.size(0); vehicle++) {
            for (int kind = 0; kind < 4; kind++) {
                list.add("as", vehicle, kind);
            }
        }
        asked.addAll(list.calls);
        return asked;
    }

    private static void askOfDay(World list, World world, int day) {
        list.add("says", day, 0).add("says", day, 1).add("leans", -1, day);
        for (int kind = 0; kind < 4; kind++) {
            list.add("says", day, 10 + kind);
        }
        for (int tester = 0; tester < world.size(2); tester++) {
            list.add("at", tester, day).add("sum", tester, day).add("banned", tester, day);
        }
    }

    private static void askOfGarages(World list, World world) {
        for (int secret = 0; secret < world.size(5); secret++) {
            list.add("plan", secret);
        }
        for (int garage = 0; garage < world.size(1); garage++) {
            for (int what = 0; what <= 6; what++) {
                list.add("rate", garage, what);
            }
            for (int secret = 0; secret < world.size(5); secret++) {
                list.add("worth", secret, garage);
            }
        }
    }

    /** Acts whose answers tell what no question does: the tape, what waits, the latest days, the rules. */
    private static List<List<Call>> acts(World world) {
        World tape = new World("tape").add("text", 0);
        World longerTape = new World("longer tape").add("feed", ';').add("text", 0);
        for (int what : new int[] {0, 1, 10, 11, 12, 13}) {
            tape.add("says", 0, what);
            longerTape.add("says", 0, what);
        }
        World waiting = new World("waiting").add("check", 0).add("tell", 0).add("check", 0);
        World moreWaiting = new World("more waiting").add("tell", 0).add("check", 0);
        World rules = new World("rules").add("rule", 0, 1).add("rule", 1, 1).add("rule", 2, 1);
        World numbers = new World("numbers").add("vehicle", 1, 1, 1).add("garage", 1, 2).add("tester", 0)
            .add("secret", 1).add("test", 0, 60, 20256, 9, 9).add("test", 0, 80, 20256, 9, 9).add("of", 5, 5);
        World moves = new World("moves");
        for (int tester = 0; tester < world.size(2); tester++) {
            moves.add("move", tester, 0, 49).add("move", tester, 0, 60).add("at", tester, 60);
        }
        World marks = new World("marks");
        for (int test = 0; test < world.size(3); test++) {
            marks.add("appeal", test, 0).add("visit", 0, test);
        }
        World draws = new World("draws");
        for (int test = 0; test < world.size(3); test++) {
            draws.add("draw", test, 1, 0);
        }
        draws.add("error");
        return List.of(tape.calls, longerTape.calls, waiting.calls, moreWaiting.calls, rules.calls, numbers.calls,
            moves.calls, marks.calls, draws.calls);
    }

    /** What is asked, in parts for which an object of that world has calls left. */
    private static List<List<Call>> parts(World world) {
        List<List<Call>> parts = new ArrayList<>(acts(world));
        List<Call> questions = questions(world);
        int room = Asked.MOST_CALLS - world.calls.size() - 20;
        for (int from = 0; from < questions.size(); from += room) {
            parts.add(questions.subList(from, Math.min(questions.size(), from + room)));
        }
        return parts;
    }

    private static int[] founds(Asked asked) {
        int[] founds = new int[6];
        for (int k = 1; k <= 5; k++) {
            founds[k] = asked.found(k);
        }
        return founds;
    }

    private void dueFounds(Asked told, Asked twin, int finding, String what) {
        int[] got = founds(told);
        int[] want = founds(twin);
        for (int k = 1; k <= 5; k++) {
            due(want[k] + (finding == -1000000 - k ? 1 : 0), got[k], what + ", then found(" + k + ")");
        }
    }

    /** Makes the refused call in one of two equal worlds, and asks the same of both. */
    private void refuse(World world, World twinWorld, Call refused, int finding, List<Call> asked) {
        Asked told = world.make();
        Asked twin = twinWorld.make();
        String what = world.name + ", " + refused;
        due(finding, refused.on(told), what);
        dueFounds(told, twin, finding, what);
        for (Call call : asked) {
            due(call.on(twin), call.on(told), what + ", then " + call);
        }
        dueFounds(told, twin, finding, what + ", and all was asked");
    }

    private void refuseAll(World world, int finding, List<Call> refused) {
        List<List<Call>> parts = parts(world);
        for (Call call : refused) {
            for (List<Call> part : parts) {
                refuse(world, world, call, finding, part);
            }
        }
    }

    /** Every call with one argument out of its bounds; those of a world with some of all are good but for that one. */
    private static List<Call> callsBeyond() {
        World list = new World("beyond");
        bad(list, "vehicle", new int[] {1, 1, 1}, new int[] {-1, 4}, new int[] {-1, 4}, NO_DAYS);
        bad(list, "as", new int[] {0, 0}, new int[] {-1, 24}, new int[] {-1, 4});
        bad(list, "garage", new int[] {10, 20}, new int[] {-1, 20, 1440}, new int[] {10, 9, 1441});
        bad(list, "tester", new int[] {0}, new int[] {-1, 6});
        bad(list, "move", new int[] {0, 1, 70}, new int[] {-1, 8}, new int[] {-1, 6}, new int[] {-1, 10000, 39});
        bad(list, "at", new int[] {0, 0}, new int[] {-1, 8}, NO_DAYS);
        bad(list, "test", new int[] {0, 80, 30256, 1, 1}, new int[] {-1, 8, 2400}, new int[] {-1, 59, 14400080},
            new int[] {-1, 256, 241000, 30512}, new int[] {-1, 1000000}, new int[] {-1, 1000000});
        list.add("test", 300, 80, 30256, 1, 1);
        bad(list, "of", new int[] {0, 0}, new int[] {-1, 80}, new int[] {-1, 11});
        bad(list, "feed", new int[] {0}, new int[] {-1, 256});
        bad(list, "text", new int[] {0}, NO_DAYS);
        bad(list, "says", new int[] {60, 0}, NO_DAYS, new int[] {-1, 2, 9, 14});
        for (String name : new String[] {"verdict", "unlike", "signs", "alike", "falls", "points"}) {
            bad(list, name, new int[] {0}, new int[] {-1, 80});
        }
        bad(list, "rate", new int[] {0, 0}, new int[] {-1, 6}, new int[] {-1, 7});
        bad(list, "share", new int[] {0, 0}, new int[] {-1, 4}, new int[] {-1, 4});
        bad(list, "rule", new int[] {0, 5}, new int[] {-1, 3}, new int[] {0, 3651});
        list.add("rule", 1, 0).add("rule", 1, 1001).add("rule", 2, 0).add("rule", 2, 201);
        bad(list, "appeal", new int[] {1, 0}, new int[] {-1, 80}, new int[] {-1, 2});
        bad(list, "sum", new int[] {0, 0}, new int[] {-1, 8}, NO_DAYS);
        bad(list, "banned", new int[] {0, 0}, new int[] {-1, 8}, NO_DAYS);
        bad(list, "secret", new int[] {1}, new int[] {-1, 0, 256});
        bad(list, "visit", new int[] {0, 1}, new int[] {-1, 6}, new int[] {-1, 80});
        bad(list, "worth", new int[] {0, 0}, new int[] {-1, 6}, new int[] {-1, 6});
        bad(list, "plan", new int[] {0}, new int[] {-2, 6});
        bad(list, "draw", new int[] {2, 50, 1}, new int[] {-1, 80}, new int[] {0, 101}, new int[] {-1, 2});
        bad(list, "leans", new int[] {0, 0}, new int[] {-2, 24}, NO_DAYS);
        bad(list, "count", new int[] {0}, new int[] {-1, 11});
        bad(list, "found", new int[] {1}, new int[] {0, 6});
        return list.calls;
    }

    /** One argument at a time out of its bounds, then far out of them; at last all of them. */
    private static void bad(World list, String name, int[] good, int[]... values) {
        for (int place = 0; place < good.length; place++) {
            for (int value : values[place]) {
                addWith(list, name, good, place, value);
            }
            addWith(list, name, good, place, LEAST);
            addWith(list, name, good, place, GREATEST);
        }
        int[] least = good.clone();
        int[] greatest = good.clone();
        java.util.Arrays.fill(least, LEAST);
        java.util.Arrays.fill(greatest, GREATEST);
        list.add(name, least).add(name, greatest);
    }

    private static void addWith(World list, String name, int[] good, int place, int value) {
        int[] arguments = good.clone();
        arguments[place] = value;
        list.add(name, arguments);
    }

    private void dueCounts(World world, int... want) {
        Asked made = world.make();
        for (int what = 0; what < want.length; what++) {
            due(want[what], made.count(what), world.name + ", count " + what);
        }
        for (int k = 1; k <= 5; k++) {
            due(0, made.found(k), world.name + ", found " + k);
        }
    }

    @Says(promise = 0, value = "one that answers a finding changes nothing but what found() tells.")
    void theWorldsAreWhatTheyShouldBe() {
        dueCounts(nothing(), 0, 0, 0, 0, 0, 0, 0, 0, 0, 0);
        dueCounts(some(), 4, 2, 2, 5, 1, 2, 2, 2, 3, 2);
        dueCounts(full(), 24, 6, 8, 80, 6, 6, 6, 6, 60, 8);
        dueCounts(fullTape(), 0, 0, 0, 0, 0, 0, 0, 0, 60, 1);
    }

    @Says(promise = 0, value = "one that answers a finding changes nothing but what found() tells.")
    void beyondOfNothing() {
        refuseAll(nothing(), BEYOND, callsBeyond());
    }

    @Says(promise = 0, value = "one that answers a finding changes nothing but what found() tells.")
    void beyondOfSome() {
        refuseAll(some(), BEYOND, callsBeyond());
    }

    @Says(promise = 0, value = "Each act tells its findings in the order in which they are asked")
    void beyondComesFirstWhereAllIsFull() {
        refuseAll(full(), BEYOND, callsBeyond());
    }

    @Says(promise = 0, value = "one that answers a finding changes nothing but what found() tells.")
    void fullChangesNothing() {
        refuseAll(full(), FULL, new World("refused").add("vehicle", 3, 3, 9999).add("garage", 5, 6).add("tester", 5)
            .add("move", 0, 5, 9999).add("test", 0, 9999, 1511, 999999, 999999).add("feed", 255).add("text", 0)
            .add("secret", 255).add("tell", 77).calls);
        refuseAll(fullTape(), FULL, new World("refused").add("feed", 0).add("feed", ';').add("feed", 255).calls);
    }

    @Says(promise = 0, value = "one that answers a finding changes nothing but what found() tells.")
    void stateChangesNothing() {
        refuseAll(some(), STATE, new World("refused").add("visit", 0, 0).add("visit", 1, 0).add("visit", 0, 4)
            .add("draw", 1, 10, 1).add("draw", 1, 100, 0).add("draw", 3, 1, 1).calls);
        refuseAll(full(), STATE, new World("refused").add("visit", 5, 0).add("visit", 0, 35).add("draw", 0, 99, 1)
            .add("draw", 40, 99, 0).calls);
    }

    @Says(promise = 0, value = "one that answers a finding changes nothing but what found() tells.")
    void noneChangesNothing() {
        refuseAll(nothing(), NONE, new World("refused").add("says", 0, 0).add("says", 9999, 13).add("share", 0, 0)
            .add("error").calls);
        refuseAll(some(), NONE, new World("refused").add("says", 9, 0).add("share", 3, 3).calls);
        refuseAll(nothing().add("secret", 1), NONE, new World("refused").add("plan", 0).calls);
    }

    @Says(promise = 0, value = "one that answers a finding changes nothing but what found() tells.")
    void kindChangesNothing() {
        refuseAll(some(), KIND, new World("refused").add("as", 0, 3).add("as", 2, 1).add("falls", 2).calls);
        refuseAll(full(), KIND, new World("refused").add("as", 23, 1).add("falls", 3).add("falls", 79).calls);
    }

    @Says(promise = 11, value = "BEYOND: it isn't a day (THE TAPE stays). FULL (likewise).")
    void aRefusedTextLeavesTheTape() {
        World refused = new World("refused");
        for (int day : NO_DAYS) {
            refused.add("text", day);
        }
        refuseAll(fullTape(), BEYOND, refused.calls);
        refuseAll(full(), FULL, new World("refused").add("text", 0).add("text", 9999).calls);
    }

    @Says(promise = 11, value = "-10 less its FAULT (none comes)")
    void aFaultyTextLeavesNothingButAnEmptyTape() {
        World without = some();
        int bytes = 3;
        without.calls.removeIf(call -> call.name().equals("tell"));
        without.calls.subList(without.calls.size() - bytes, without.calls.size()).clear();
        World faulty = new World("some of all").feed("b999;d1;f7v;f6r;x");
        faulty.calls.addAll(0, without.calls);
        for (List<Call> part : parts(faulty)) {
            refuse(faulty, without, new Call("text", 0), -26, part);
        }
    }

    @Says(promise = 33, value = "BEYOND: it isn't a day (they are gone, too).")
    void aRefusedCheckLeavesNoNumbers() {
        for (int day : NO_DAYS) {
            for (World world : List.of(some(), full(), fullTape())) {
                World without = new World(world.name);
                without.calls.addAll(world.calls);
                without.calls.removeIf(call -> call.name().equals("tell"));
                for (List<Call> part : parts(world)) {
                    refuse(world, without, new Call("check", day), BEYOND, part);
                }
            }
        }
    }

    public static void main(String[] args) throws ReflectiveOperationException {
        runAll(RefusedEdgesTest.class);
    }
}
