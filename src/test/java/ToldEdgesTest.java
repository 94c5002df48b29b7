/** The edges of what is told, counted and found, and of findings as such: promises 32 to 35, and all of them. */
public final class ToldEdgesTest extends Edges {

    // ---- promise 32: tell

    @Says(promise = 32, value = "One more number waits: how many. FULL: 8 wait.")
    void eightNumbersWait() {
        int[] numbers = {0, -1, 1, LEAST, GREATEST, -1000001, 1000000, 42};
        for (int i = 0; i < 8; i++) {
            due(i + 1, x.tell(numbers[i]), "number " + i);
        }
        due(FULL, x.tell(0), "number 8");
        due(FULL, x.tell(LEAST), "number 8, the least");
        due(FULL, x.tell(GREATEST), "number 8, the greatest");
        due(8, x.count(9), "count");
        due(3, x.found(4), "findings");
    }

    @Says(promise = 32, value = "One more number waits: how many. FULL: 8 wait.")
    void aRefusedNumberTakesNoPlace() {
        x.garage(0, 1440);
        for (int i = 0; i < 8; i++) {
            x.tester(0);
            x.tell(0);
        }
        due(FULL, x.tell(5), "number 8");
        due(0, x.check(0), "the eight that wait are as they were told");
    }

    @Says(promise = 32, value = "One more number waits: how many. FULL: 8 wait.")
    void numbersWaitAnewBehindACheck() {
        for (int round = 0; round < 3; round++) {
            for (int i = 0; i < 8; i++) {
                due(i + 1, x.tell(i), "number " + i);
            }
            due(FULL, x.tell(0), "number 8");
            x.check(0);
        }
        due(1, x.tell(0), "number 0");
    }

    // ---- promise 33: check

    private int check(int day, int... numbers) {
        for (int v : numbers) {
            x.tell(v);
        }
        int answer = x.check(day);
        due(0, x.count(9), "none waits behind a check");
        return answer;
    }

    /** Three testers, of whom 0 and 2 have 2 points from day 10 on. */
    private void start() {
        garages(3);
        vehicles(1);
        trial().tester(0).day(10).minutes(1).on(x);
        trial().tester(2).day(10).minutes(1).on(x);
    }

    @Says(promise = 33, value = "The numbers that wait (none do then) are POINTS of TESTERS 0, 1, .. on a DAY: 0 if they are")
    void checkOfThoseThatAre() {
        due(0, check(0), "nothing waits, no testers");
        due(0, check(9999), "nothing waits, the last day");
        start();
        due(0, check(10), "nothing waits");
        due(0, check(10, 2), "one");
        due(0, check(10, 2, 0), "two");
        due(0, check(10, 2, 0, 2), "all");
        due(0, check(9, 0, 0, 0), "the day ahead");
        due(0, check(374, 2, 0, 2), "the last day with points");
        due(0, check(375, 0, 0, 0), "the day behind it");
        due(0, check(9999, 0), "the last day");
    }

    @Says(promise = 33, value = "1 and i for the first (from 0 on) that isn't")
    void checkOfTheFirstThatIsNot() {
        start();
        due(1, check(10, 1, 0, 2), "number 0, less by one");
        due(1, check(10, 3, 0, 2), "number 0, more by one");
        due(2, check(10, 2, 1, 2), "number 1");
        due(3, check(10, 2, 0, 0), "number 2");
        due(1, check(10, 0, 1, 0), "the first of three");
        due(2, check(10, 2, LEAST, GREATEST), "the least");
        due(3, check(10, 2, 0, GREATEST), "the greatest");
        due(1, check(9, 2, 0, 2), "the points of another day");
    }

    @Says(promise = 33, value = "or for which there is no TESTER.")
    void checkOfNoTester() {
        due(1, check(0, 0), "no testers");
        due(1, check(0, 0, 0, 0, 0, 0, 0, 0, 0), "no testers, eight numbers");
        start();
        due(4, check(10, 2, 0, 2, 0), "one number more than testers");
        due(2, check(10, 2, 1, 2, 0), "one that isn't comes first");
        fresh();
        x.garage(0, 1440);
        for (int i = 0; i < 7; i++) {
            x.tester(0);
        }
        due(8, check(0, 0, 0, 0, 0, 0, 0, 0, 0), "the eighth number of seven testers");
        x.tester(0);
        due(0, check(0, 0, 0, 0, 0, 0, 0, 0, 0), "eight numbers of eight testers");
        due(8, check(0, 0, 0, 0, 0, 0, 0, 0, 1), "the last that isn't");
    }

    @Says(promise = 33, value = "BEYOND: it isn't a day (they are gone, too).")
    void numbersAreGoneWhereItIsNoDay() {
        start();
        for (int day : NO_DAYS) {
            due(BEYOND, check(day, 7), "day " + day);
            due(0, check(10), "nothing is left");
            due(BEYOND, check(day), "day " + day + ", and nothing waits");
        }
        for (int day : FAR) {
            due(BEYOND, check(day, 1, 2, 3, 4, 5, 6, 7, 8), "day " + day);
        }
        due(1, x.tell(2), "the first number anew");
        due(0, x.check(10), "which is compared with tester 0");
    }

    // ---- promise 34: count

    @Says(promise = 34, value = "0 VEHICLES, 1 GARAGES, 2 TESTERS, 3 TESTS, 4 TEXTS, 5 SECRET cars, 6 VISITS, 7 DRAWN, 8 bytes of THE TAPE, 9 numbers that wait, 10 TESTS with SIGNS.")
    void eachCountIsItsOwn() {
        vehicles(1);
        counts(1, 0, 0, 0, 0, 0, 0, 0, 0, 0, 0);
        x.garage(0, 1440);
        counts(1, 1, 0, 0, 0, 0, 0, 0, 0, 0, 0);
        x.tester(0);
        counts(1, 1, 1, 0, 0, 0, 0, 0, 0, 0, 0);
        trial().on(x);
        counts(1, 1, 1, 1, 0, 0, 0, 0, 0, 0, 0);
        feed("b501;");
        counts(1, 1, 1, 1, 0, 0, 0, 0, 5, 0, 0);
        x.text(0);
        counts(1, 1, 1, 1, 1, 0, 0, 0, 0, 0, 1);
        x.secret(1);
        counts(1, 1, 1, 1, 1, 1, 0, 0, 0, 0, 1);
        x.visit(0, 0);
        counts(1, 1, 1, 1, 1, 1, 1, 0, 0, 0, 1);
        x.draw(0, 1, 1);
        counts(1, 1, 1, 1, 1, 1, 1, 1, 0, 0, 1);
        x.tell(0);
        counts(1, 1, 1, 1, 1, 1, 1, 1, 0, 1, 1);
    }

    private void counts(int... want) {
        for (int what = 0; what < want.length; what++) {
            due(want[what], x.count(what), "count " + what);
        }
    }

    @Says(promise = 34, value = "10 TESTS with SIGNS.")
    void testsWithSignsOfAll() {
        garages(1);
        vehicles(1);
        for (int i = 0; i < 80; i++) {
            due(0, x.count(10), "ahead of test " + i);
            trial().day(i).on(x);
        }
        due(0, x.count(10), "none of 80");
        text(40, "b501;");
        due(40, x.count(10), "those from the day of the text on");
        text(0, "b501;");
        due(80, x.count(10), "all of 80");
        text(0, "b500;");
        due(0, x.count(10), "none again");
    }

    @Says(promise = 34, value = "BEYOND: another what.")
    void countBeyond() {
        dueOfEach(BEYOND, new int[] {-1, 11}, "count", 0, 0);
        dueOfEach(BEYOND, FAR, "count", 0, 0);
        due(0, x.count(0), "what 0");
        due(0, x.count(10), "what 10");
        due(2 + FAR.length, x.found(1), "findings");
    }

    // ---- promise 35: found

    @Says(promise = 35, value = "How many acts have answered a finding LOW - k (k 1 .. 5)")
    void eachFindingIsCountedOfItsOwn() {
        founds(0, 0, 0, 0, 0);
        due(BEYOND, x.garage(-1, 0), "beyond");
        founds(1, 0, 0, 0, 0);
        due(NONE, x.error(), "none");
        founds(1, 1, 0, 0, 0);
        garages(1);
        vehicles(3);
        trial().on(x);
        x.draw(0, 1, 0);
        due(STATE, x.draw(0, 1, 0), "state");
        founds(1, 1, 1, 0, 0);
        for (int i = 0; i < 9; i++) {
            x.tell(i);
        }
        founds(1, 1, 1, 1, 0);
        due(KIND, x.falls(0), "kind");
        founds(1, 1, 1, 1, 1);
    }

    private void founds(int... want) {
        for (int k = 1; k <= 5; k++) {
            due(want[k - 1], x.found(k), "found " + k);
        }
    }

    @Says(promise = 35, value = "BEYOND: another k (counted, too).")
    void foundBeyondIsCountedToo() {
        due(BEYOND, x.found(0), "found 0");
        due(1, x.found(1), "one");
        due(BEYOND, x.found(6), "found 6");
        due(2, x.found(1), "two");
        dueOfEach(BEYOND, FAR, "found", 0, 0);
        due(BEYOND, x.found(-1), "found -1");
        founds(3 + FAR.length, 0, 0, 0, 0);
    }

    @Says(promise = 35, value = "How many acts have answered a finding LOW - k (k 1 .. 5)")
    void whatIsNoFindingIsNotCounted() {
        garages(1);
        vehicles(1);
        due(-10, text(0, "x"), "the fault of a text");
        due(-70, text(0, "b1;".repeat(18) + "b1;b12"), "the last fault there may be");
        trial().failed().on(x);
        trial().tester(0).day(1).on(x);
        due(0, x.rate(0, 4), "more");
        due(365, x.rule(0, 1), "a rule");
        founds(0, 0, 0, 0, 0);
    }

    // ---- all promises

    @Says(promise = 0, value = "FINDINGS are answers below -1000000: LOW is -1000000; LOW - 1 BEYOND, LOW - 2 NONE, LOW - 3 STATE, LOW - 4 FULL, LOW - 5 KIND.")
    void theNumbersOfTheFindings() {
        due(-1000001, x.count(11), "BEYOND");
        due(-1000002, x.error(), "NONE");
        garages(1);
        vehicles(3);
        trial().on(x);
        x.draw(0, 1, 0);
        due(-1000003, x.draw(0, 1, 0), "STATE");
        for (int i = 0; i < 8; i++) {
            x.tell(i);
        }
        due(-1000004, x.tell(8), "FULL");
        due(-1000005, x.as(0, 1), "KIND");
    }

    @Says(promise = 0, value = "An object is used for at most 512 calls after it has been made")
    void allCallsOfAnObjectAreCounted() {
        for (int i = 0; i < 511; i++) {
            due(BEYOND, x.found(0), "call " + i);
        }
        due(511, x.found(1), "the last call");
    }

    @Says(promise = 0, value = "An object is used for at most 512 calls after it has been made")
    void numbersAreNotUsedUpByManyCalls() {
        for (int i = 0; i < 56; i++) {
            for (int n = 1; n <= 8; n++) {
                due(n, x.tell(n), "number " + n + " of round " + i);
            }
            due(1, x.check(0), "check of round " + i);
        }
        due(0, x.found(1) + x.found(4), "findings");
    }

    public static void main(String[] args) throws ReflectiveOperationException {
        runAll(ToldEdgesTest.class);
    }
}
