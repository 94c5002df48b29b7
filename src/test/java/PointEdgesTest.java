/** The edges of rules, appeals, points and bans: promises 20 to 24. */
public final class PointEdgesTest extends Edges {
    private static final int LAPSE = 0;
    private static final int BAN = 1;
    private static final int LIMIT = 2;

    /** A garage, two testers and a car: a quick test is 2 points. */
    private void start() {
        fresh();
        garages(2);
        vehicles(1, 1);
    }

    private int quick(int tester, int day) {
        return trial().tester(tester).day(day).minute(5 * (x.count(3) % 200)).minutes(1).on(x);
    }

    // ---- promise 20: rule

    private void rule(int what, int first, int most) {
        due(BEYOND, x.rule(what, 0), "0");
        due(BEYOND, x.rule(what, -1), "-1");
        due(BEYOND, x.rule(what, most + 1), "one more than the most");
        dueOfEach(BEYOND, FAR, "rule", 1, what, 1);
        due(first, x.rule(what, 1), "what it was at first, behind refused ones");
        due(1, x.rule(what, most), "what it was: the least");
        due(most, x.rule(what, most), "what it was: the most");
        due(most, x.rule(what, first), "what it was: the most again");
        due(first, x.rule(what, first), "what it was: the first one");
    }

    @Says(promise = 20, value = "LAPSE (1 .. 3650; 365 at first)")
    void lapseGoesTo3650() {
        rule(LAPSE, 365, 3650);
    }

    @Says(promise = 20, value = "BAN (1 .. 1000; 90 at first)")
    void banGoesTo1000() {
        rule(BAN, 90, 1000);
    }

    @Says(promise = 20, value = "LIMIT (1 .. 200; 20 at first)")
    void limitGoesTo200() {
        rule(LIMIT, 20, 200);
    }

    @Says(promise = 20, value = "LAPSE, BAN, LIMIT (what 0 .. 2): what it was. BEYOND.")
    void noOtherRules() {
        dueOfEach(BEYOND, new int[] {-1, 3}, "rule", 0, 0, 1);
        dueOfEach(BEYOND, FAR, "rule", 0, 0, 1);
        due(365, x.rule(LAPSE, 7), "lapse");
        due(90, x.rule(BAN, 8), "ban, which lapse did not change");
        due(20, x.rule(LIMIT, 9), "limit, which neither did");
        due(7, x.rule(LAPSE, 7), "lapse again");
        due(8, x.rule(BAN, 8), "ban again");
    }

    // ---- promise 21: appeal

    @Says(promise = 21, value = "A TEST is APPEALED (1), or not (0): what it was.")
    void appealTellsWhatItWas() {
        start();
        quick(0, 0);
        quick(0, 0);
        due(0, x.appeal(1, 0), "it never was");
        due(0, x.appeal(1, 1), "it was not");
        due(1, x.appeal(1, 1), "it was");
        due(0, x.appeal(0, 0), "the other was not");
        due(2, x.sum(0, 0), "the points of the other alone");
        due(1, x.appeal(1, 0), "it was, and is not now");
        due(4, x.sum(0, 0), "the points of both");
    }

    @Says(promise = 21, value = "A TEST is APPEALED (1), or not (0): what it was. BEYOND.")
    void appealBeyond() {
        start();
        due(BEYOND, x.appeal(0, 0), "ahead of the first test");
        quick(0, 0);
        dueOfEach(BEYOND, new int[] {-1, 1, 80}, "appeal", 0, 0, 1);
        dueOfEach(BEYOND, FAR, "appeal", 0, 0, 1);
        dueOfEach(BEYOND, new int[] {-1, 2}, "appeal", 1, 0, 0);
        dueOfEach(BEYOND, FAR, "appeal", 1, 0, 0);
        due(0, x.appeal(0, 1), "refused ones changed nothing");
        dueOfEach(BEYOND, new int[] {-1, 2}, "appeal", 1, 0, 0);
        due(1, x.appeal(0, 1), "refused ones changed nothing, again");
    }

    // ---- promise 22: points

    @Says(promise = 22, value = "POINTS of a TEST: 6 if UNLIKE is 1, 2 if QUICK, 4 if OVERLAP, 1 if SHUT, together")
    void eachOfThePoints() {
        x.garage(100, 200);
        x.tester(0);
        vehicles(1, 1);
        text(0, "f0v;");
        due(0, x.points(trial().day(0).minute(100).on(x)), "nothing");
        due(6, x.points(trial().day(1).minute(100).faults(1).on(x)), "unlike is 1");
        due(0, x.points(trial().day(2).minute(100).failed().on(x)), "unlike is 2");
        due(2, x.points(trial().day(3).minute(100).minutes(19).on(x)), "quick");
        due(0, x.points(trial().day(4).minute(100).minutes(20).on(x)), "not quick");
        due(1, x.points(trial().day(5).minute(99).on(x)), "shut");
        trial().day(6).minute(100).on(x);
        due(4, x.points(trial().day(6).minute(129).on(x)), "overlap");
        due(4, x.points(6), "overlap, of the other");
        trial().day(7).minute(199).faults(1).minutes(2).on(x);
        due(9, x.points(8), "all but overlap");
        trial().day(7).minute(199).faults(1).minutes(2).on(x);
        due(13, x.points(8), "all of them");
        due(13, x.points(9), "all of them, of the other");
    }

    @Says(promise = 22, value = "POINTS of a TEST: 6 if UNLIKE is 1, 2 if QUICK, 4 if OVERLAP, 1 if SHUT, together")
    void alikeHasNoPoints() {
        garages(1);
        vehicles(1, 1, 1, 1);
        for (int i = 0; i < 4; i++) {
            trial().vehicle(i).day(i).on(x);
        }
        due(1, x.signs(3), "signs");
        due(0, x.points(3), "points");
    }

    @Says(promise = 22, value = "of one that is APPEALED 0; 10 more for each FAULT that was MISSED in it (also if it is APPEALED).")
    void missedFaultsStayWhenAppealed() {
        start();
        text(0, "f0v;f1v;f2v;f3v;f4v;f5v;f6v;f7v;b600;");
        int test = quick(0, 0);
        due(8, x.points(test), "unlike and quick");
        x.secret(255);
        due(255, x.visit(0, test), "all were missed");
        due(88, x.points(test), "with eight missed ones");
        x.appeal(test, 1);
        due(80, x.points(test), "appealed");
        x.appeal(test, 0);
        due(88, x.points(test), "no longer appealed");
        int other = trial().day(1).brakes(600, 600).on(x);
        x.secret(1);
        x.visit(1, other);
        due(10, x.points(other), "one missed one alone");
    }

    @Says(promise = 22, value = "POINTS of a TEST. BEYOND.")
    void pointsBeyond() {
        asksOfOneTest("points", 0);
    }

    // ---- promise 23: sum

    private void sums(int... dayAndSum) {
        for (int i = 0; i < dayAndSum.length; i += 2) {
            due(dayAndSum[i + 1], x.sum(0, dayAndSum[i]), "sum on day " + dayAndSum[i]);
        }
    }

    @Says(promise = 23, value = "POINTS of a TESTER on a DAY: of its TESTS of that DAY and of the LAPSE (1 .. 3650; 365 at first) less 1 days ahead of it.")
    void pointsLapse() {
        start();
        quick(0, 1000);
        sums(0, 0, 999, 0, 1000, 2, 1364, 2, 1365, 0, 9999, 0);
        x.rule(LAPSE, 1);
        sums(999, 0, 1000, 2, 1001, 0);
        x.rule(LAPSE, 2);
        sums(1001, 2, 1002, 0);
        x.rule(LAPSE, 3650);
        sums(999, 0, 4649, 2, 4650, 0);
    }

    @Says(promise = 23, value = "POINTS of a TESTER on a DAY: of its TESTS of that DAY")
    void pointsOfTheFirstAndTheLastDay() {
        start();
        quick(0, 0);
        quick(0, 9999);
        sums(0, 2, 364, 2, 365, 0, 9998, 0, 9999, 2);
        x.rule(LAPSE, 3650);
        sums(0, 2, 3649, 2, 3650, 0, 9999, 2);
    }

    @Says(promise = 23, value = "POINTS of a TESTER on a DAY: of its TESTS of that DAY")
    void pointsOfItsOwnTestsWhereverItIs() {
        start();
        quick(0, 10);
        quick(1, 10);
        quick(0, 20);
        x.move(0, 1, 15);
        sums(10, 2, 20, 4);
        due(2, x.sum(1, 20), "the other tester");
    }

    @Says(promise = 23, value = "POINTS of a TESTER on a DAY. BEYOND.")
    void sumBeyond() {
        asksOfATesterOnADay("sum", 0);
    }

    // ---- promise 24: banned

    private void bans(int... dayAndBan) {
        for (int i = 0; i < dayAndBan.length; i += 2) {
            due(dayAndBan[i + 1], x.banned(0, dayAndBan[i]), "banned on day " + dayAndBan[i]);
        }
    }

    @Says(promise = 24, value = "POINTS were LIMIT (1 .. 200; 20 at first) or more.")
    void pointsAtTheLimit() {
        start();
        for (int i = 0; i < 9; i++) {
            quick(0, 100);
        }
        due(18, x.sum(0, 100), "points");
        bans(100, 0);
        quick(0, 100);
        due(20, x.sum(0, 100), "points");
        bans(99, 0, 100, 1);
        x.rule(LIMIT, 21);
        bans(100, 0);
        x.rule(LIMIT, 1);
        bans(99, 0, 100, 1);
        due(0, x.banned(1, 100), "no points are below the least limit");
    }

    @Says(promise = 24, value = "POINTS were LIMIT (1 .. 200; 20 at first) or more.")
    void pointsAtTheMostLimit() {
        start();
        text(0, "f0v;f1v;f2v;f3v;f4v;f5v;f6v;f7v;");
        x.secret(255);
        x.rule(LIMIT, 200);
        for (int i = 0; i < 2; i++) {
            x.visit(0, trial().day(100 + i).on(x));
        }
        x.secret(0b111);
        x.visit(1, trial().day(102).on(x));
        for (int i = 0; i < 4; i++) {
            trial().day(103 + i).minutes(1).on(x);
        }
        due(198, x.sum(0, 106), "points");
        bans(106, 0);
        trial().day(107).minutes(1).on(x);
        due(200, x.sum(0, 107), "points");
        bans(106, 0, 107, 1);
    }

    @Says(promise = 24, value = "POINTS were LIMIT (1 .. 200; 20 at first) or more.")
    void aSinglePointAtTheLeastLimit() {
        x.garage(100, 200);
        x.tester(0);
        vehicles(1);
        x.rule(LIMIT, 1);
        x.rule(LAPSE, 1);
        trial().day(100).on(x);
        due(1, x.sum(0, 100), "points");
        bans(99, 0, 100, 1, 101, 1, 189, 1, 190, 0);
    }

    @Says(promise = 24, value = "BANNED on a DAY: on some day up to it, not more than BAN (1 .. 1000; 90 at first) less 1 days ahead of it")
    void aBanLasts() {
        start();
        x.rule(LIMIT, 2);
        x.rule(LAPSE, 1);
        quick(0, 1000);
        bans(0, 0, 999, 0, 1000, 1, 1001, 1, 1089, 1, 1090, 0, 9999, 0);
        x.rule(BAN, 1);
        bans(999, 0, 1000, 1, 1001, 0);
        x.rule(BAN, 2);
        bans(1001, 1, 1002, 0);
        x.rule(BAN, 1000);
        bans(999, 0, 1999, 1, 2000, 0);
    }

    @Says(promise = 24, value = "BANNED on a DAY: on some day up to it, not more than BAN (1 .. 1000; 90 at first) less 1 days ahead of it")
    void aBanLastsBehindTheLastDayWithPoints() {
        start();
        x.rule(LIMIT, 2);
        quick(0, 1000);
        // Points last up to day 1364, and the ban 89 days more.
        bans(999, 0, 1000, 1, 1364, 1, 1365, 1, 1453, 1, 1454, 0);
        x.rule(LAPSE, 3650);
        x.rule(BAN, 1000);
        bans(999, 0, 5648, 1, 5649, 0);
    }

    @Says(promise = 24, value = "BANNED on a DAY: on some day up to it, not more than BAN (1 .. 1000; 90 at first) less 1 days ahead of it")
    void aBanOfTheFirstAndTheLastDay() {
        start();
        x.rule(LIMIT, 2);
        x.rule(LAPSE, 1);
        quick(0, 0);
        quick(0, 9999);
        bans(0, 1, 89, 1, 90, 0, 9998, 0, 9999, 1);
        x.rule(BAN, 1000);
        bans(0, 1, 999, 1, 1000, 0, 9998, 0, 9999, 1);
    }

    @Says(promise = 24, value = "on some day up to it")
    void onADayBetweenItsEnds() {
        start();
        x.rule(LIMIT, 4);
        x.rule(LAPSE, 6);
        x.rule(BAN, 10);
        quick(0, 100);
        quick(0, 105);
        quick(0, 111);
        // On day 105 alone two tests are within six days.
        bans(104, 0, 105, 1, 110, 1, 114, 1, 115, 0, 120, 0);
        x.appeal(0, 1);
        bans(105, 0, 111, 0);
        x.appeal(0, 0);
        x.rule(LAPSE, 5);
        bans(105, 0, 111, 0);
    }

    @Says(promise = 24, value = "1 a TESTER is BANNED on a DAY, else 0. BEYOND.")
    void bannedBeyond() {
        asksOfATesterOnADay("banned", 0);
    }

    public static void main(String[] args) throws ReflectiveOperationException {
        runAll(PointEdgesTest.class);
    }
}
