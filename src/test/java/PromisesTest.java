/** The promises of the document, one method each: ordinary inputs, the edges, and wrong inputs. */
public final class PromisesTest {
    private static final int BEYOND = -1000001;
    private static final int NONE = -1000002;
    private static final int STATE = -1000003;
    private static final int FULL = -1000004;
    private static final int KIND = -1000005;
    private static final int PASSED = 256;
    private static final int[] NO_NUMBERS_OF_ANYTHING = {-1, Integer.MIN_VALUE, Integer.MAX_VALUE};
    private static final int[] NO_DAYS = {-1, 10000, Integer.MIN_VALUE, Integer.MAX_VALUE};

    private static int wrong = 0;
    private static int promise = 0;

    private Asked x = new Asked();

    private static void due(int want, int got, String what) {
        if (got != want) {
            wrong++;
            System.out.println("promise " + promise + ", " + what + ": answered " + got + ", due is " + want);
        }
    }

    /** A new object with so many garages that never shut, and a tester at each. */
    private PromisesTest open(int garages) {
        x = new Asked();
        for (int i = 0; i < garages; i++) {
            due(i, x.garage(0, 1440), "a garage for it");
            due(i, x.tester(i), "a tester for it");
        }
        return this;
    }

    private PromisesTest vehicles(int... kinds) {
        for (int kind : kinds) {
            x.vehicle(kind, 0, 0);
        }
        return this;
    }

    private int text(int day, String rows) {
        for (int i = 0; i < rows.length(); i++) {
            x.feed(rows.charAt(i));
        }
        return x.text(day);
    }

    /** A test with nothing strange about it, at a minute of its own. */
    private int plain(int vehicle, int tester, int day, int how) {
        int minute = 30 * (x.count(3) % 48);
        int number = x.count(3);
        return x.test(100 * vehicle + tester, 10000 * minute + day, 30000 + how, 0, 500500 + 2002 * number);
    }

    private int timed(int vehicle, int tester, int day, int minute, int minutes) {
        return x.test(100 * vehicle + tester, 10000 * minute + day, 1000 * minutes + PASSED, 0, 4004 * x.count(3));
    }

    private void noTestIsBeyond(String name) {
        due(BEYOND, x.call(name, x.count(3)), name + " of the test behind the last");
        for (int test : NO_NUMBERS_OF_ANYTHING) {
            due(BEYOND, x.call(name, test), name + " of test " + test);
        }
    }

    private void promise1() {
        x = new Asked();
        for (int what = 0; what <= 10; what++) {
            due(0, x.count(what), "count " + what + " of a new object");
        }
        for (int k = 1; k <= 5; k++) {
            due(0, x.found(k), "found " + k + " of a new object");
        }
        due(NONE, x.error(), "error of a new object");
        due(0, x.plan(-1), "all worth of a new object");
        due(0, x.leans(-1, 0), "leaning vehicles of a new object");
        due(0, x.check(0), "check of nothing");
        Asked other = new Asked();
        x.vehicle(0, 0, 0);
        x.garage(0, 1);
        due(0, other.count(0) + other.count(1), "what another object was told");
    }

    private void promise2() {
        x = new Asked();
        int[][] bad = {{-1, 0, 0}, {4, 0, 0}, {0, -1, 0}, {0, 4, 0}, {0, 0, -1}, {0, 0, 10000}};
        for (int i = 0; i < 24; i++) {
            due(i, x.vehicle(i % 4, i / 4 % 4, i == 0 ? 9999 : 0), "vehicle " + i);
            due(BEYOND, x.vehicle(bad[i % 6][0], bad[i % 6][1], bad[i % 6][2]), "a vehicle beyond");
        }
        due(FULL, x.vehicle(0, 0, 0), "vehicle 24");
        due(BEYOND, x.vehicle(4, 0, 0), "beyond comes ahead of full");
        due(24, x.count(0), "vehicles");
    }

    private void promise3() {
        open(0).vehicles(0, 1, 2, 3);
        int[][] want = {{365, KIND, KIND, KIND}, {365, 365, KIND, KIND}, {182, 182, 182, KIND}, {730, KIND, KIND, 730}};
        for (int vehicle = 0; vehicle < 4; vehicle++) {
            for (int kind = 0; kind < 4; kind++) {
                due(want[vehicle][kind], x.as(vehicle, kind), "as " + vehicle + " " + kind);
            }
            due(BEYOND, x.as(vehicle, -1), "as kind -1");
            due(BEYOND, x.as(vehicle, 4), "as kind 4");
        }
        due(BEYOND, x.as(-1, 0), "as of vehicle -1");
        due(BEYOND, x.as(4, 0), "as of vehicle 4");
    }

    private void promise4() {
        x = new Asked();
        int[][] bad = {{-1, 5}, {1440, 1441}, {1440, 1440}, {5, 5}, {5, 4}, {0, 1441}, {Integer.MAX_VALUE, Integer.MIN_VALUE}};
        for (int[] hours : bad) {
            due(BEYOND, x.garage(hours[0], hours[1]), "garage " + hours[0] + " " + hours[1]);
        }
        due(0, x.garage(0, 1440), "a garage that never shuts");
        due(1, x.garage(1439, 1440), "a garage of the last minute");
        due(2, x.garage(0, 1), "a garage of the first minute");
        due(3, x.garage(0, 1), "garage 3");
        due(4, x.garage(0, 1), "garage 4");
        due(5, x.garage(0, 1), "garage 5");
        due(FULL, x.garage(0, 1), "garage 6");
        due(BEYOND, x.garage(1, 1), "beyond comes ahead of full");
    }

    private void promise5() {
        x = new Asked();
        due(BEYOND, x.tester(0), "a tester at no garage");
        x.garage(0, 1);
        for (int i = 0; i < 8; i++) {
            due(i, x.tester(0), "tester " + i);
            due(BEYOND, x.tester(1), "a tester at garage 1");
            due(BEYOND, x.tester(-1), "a tester at garage -1");
        }
        due(FULL, x.tester(0), "tester 8");
        due(BEYOND, x.tester(1), "beyond comes ahead of full");
    }

    private void promise6() {
        open(1);
        due(0, x.move(0, 0, 5), "a first move");
        due(BEYOND, x.move(0, 0, 4), "a day ahead of the first move");
        open(3);
        due(0, x.move(0, 1, 0), "a move on day 0 tells where it was at first");
        due(0, x.move(0, 2, 0), "a second move on day 0 too");
        due(2, x.move(0, 0, 9), "a later move");
        due(2, x.move(0, 1, 9), "a second one of that day");
        due(1, x.move(0, 1, 10), "a move on the next day");
        due(BEYOND, x.move(0, 2, 8), "a move ahead of the latest one");
        due(1, x.move(1, 2, 8), "another tester's latest one does not matter");
        due(BEYOND, x.move(3, 0, 10), "tester 3");
        due(BEYOND, x.move(-1, 0, 10), "tester -1");
        due(BEYOND, x.move(0, 3, 10), "garage 3");
        due(BEYOND, x.move(0, -1, 10), "garage -1");
        due(BEYOND, x.move(0, 0, 10000), "day 10000");
        due(BEYOND, x.move(2, 0, -1), "day -1");
        for (int i = 6; i < 30; i++) {
            due(2, x.move(2, 2, i), "move " + i);
        }
        due(FULL, x.move(1, 0, 9999), "move 30");
        due(BEYOND, x.move(0, 0, 8), "beyond comes ahead of full");
        due(2, x.at(1, 9999), "a refused move changes nothing");
    }

    private void promise7() {
        open(3);
        x.move(0, 1, 5);
        x.move(0, 2, 5);
        x.move(0, 0, 7);
        int[] want = {0, 0, 0, 0, 0, 2, 2, 0, 0};
        for (int day = 0; day < want.length; day++) {
            due(want[day], x.at(0, day), "at on day " + day);
            due(1, x.at(1, day), "at of one that never moved");
        }
        due(0, x.at(0, 9999), "at on the last day");
        due(BEYOND, x.at(3, 0), "at of tester 3");
        due(BEYOND, x.at(-1, 0), "at of tester -1");
        for (int day : NO_DAYS) {
            due(BEYOND, x.at(0, day), "at on day " + day);
        }
    }

    private void promise8() {
        open(1).vehicles(1);
        due(BEYOND, x.test(0, -10000, 2000, 0, 0), "minute -1 of day 0");
        due(0, x.test(0, 1, 1000, 0, 0), "a first test");
        due(BEYOND, x.test(0, 0, 1000, 0, 0), "ahead of the first test");
        open(1);
        x.vehicle(1, 0, 5);
        x.vehicle(3, 0, 0);
        int[][] bad = {{-1, 10, 1000, 0, 0}, {200, 10, 1000, 0, 0}, {1, 10, 1000, 0, 0}, {0, -1, 1000, 0, 0},
            {0, 14400010, 1000, 0, 0}, {0, 4, 1000, 0, 0}, {0, 10, 0, 0, 0}, {0, 10, -1, 0, 0}, {0, 10, 999, 0, 0},
            {0, 10, 241000, 0, 0}, {0, 10, 1512, 0, 0}, {0, 10, 1999, 0, 0}, {0, 10, 1000, -1, 0},
            {0, 10, 1000, 1000000, 0}, {100, 10, 1000, 1, 0}, {0, 10, 1000, 0, -1}, {0, 10, 1000, 0, 1000000},
            {0, 14390010, 2000, 0, 0}, {0, 12010010, 240000, 0, 0}, {Integer.MIN_VALUE, 10, 1000, 0, 0},
            {0, Integer.MAX_VALUE, 1000, 0, 0}, {0, 10, Integer.MAX_VALUE, 0, 0}};
        for (int[] a : bad) {
            due(BEYOND, x.test(a[0], a[1], a[2], a[3], a[4]), java.util.Arrays.toString(a));
        }
        due(0, x.test(100, 0, 1000, 0, 0), "on the day it was built, ahead of another's");
        due(1, x.test(0, 5, 1000, 999999, 999999), "on the day it was built");
        due(2, x.test(100, 12000005, 240511, 0, 0), "up to the end of the day");
        due(BEYOND, x.test(100, 4, 1000, 0, 0), "ahead of the latest test, of another vehicle");
        due(3, x.test(0, 14390006, 1000, 0, 0), "the last minute of a day");
        for (int i = 4; i < 80; i++) {
            due(i, x.test(0, 9920 + i, 20000, i, i), "test " + i);
        }
        due(0, x.signs(79), "signs of the last one");
        due(FULL, x.test(0, 9999, 1000, 0, 0), "test 80");
        due(BEYOND, x.test(0, 9998, 1000, 0, 0), "beyond comes ahead of full");
    }

    private void promise9() {
        open(2).vehicles(1, 1, 2);
        x.test(201, 4560789, 123000 + PASSED + 255, 654321, 987123);
        x.test(0, 789, 1007, 0, 999);
        int[] want = {2, 1, 789, 456, 123, 654321, 987, 123, 255, 1, 1};
        int[] other = {0, 0, 789, 0, 1, 0, 0, 999, 7, 0, 0};
        for (int what = 0; what <= 10; what++) {
            due(want[what], x.of(0, what), "of what " + what);
            due(other[what], x.of(1, what), "of the other, what " + what);
        }
        due(1, x.move(1, 0, 789), "a move");
        due(0, x.of(0, 10), "its garage, when the tester has moved by its day");
        due(BEYOND, x.of(0, -1), "of what -1");
        due(BEYOND, x.of(0, 11), "of what 11");
        due(BEYOND, x.of(2, 0), "of test 2");
        due(BEYOND, x.of(-1, 0), "of test -1");
    }

    private void promise10() {
        x = new Asked();
        due(BEYOND, x.feed(-1), "byte -1");
        due(BEYOND, x.feed(256), "byte 256");
        for (int i = 1; i <= 60; i++) {
            due(i, x.feed(i == 1 ? 0 : 255), "byte " + i);
        }
        due(FULL, x.feed(0), "byte 61");
        due(BEYOND, x.feed(256), "beyond comes ahead of full");
        due(60, x.count(8), "bytes");
    }

    private void promise11() {
        x = new Asked();
        String[] bad = {"x", "b", "b;", "b1", "b12", "b123", "b1234;", "d", "d;", "d1", "d12", "d123;", "f", "f8v;",
            "f7", "f7b;", "f7v", "f7v,", "b1;d2;f3", "b1;;", "B1;", "b1;d2;f3r;v", "f/v;", "b:;", "b/;", "f0V;"};
        int[] place = {0, 1, 1, 2, 3, 4, 4, 1, 1, 2, 3, 3, 1, 1,
            2, 2, 3, 3, 8, 3, 0, 10, 1, 1, 1, 2};
        for (int i = 0; i < bad.length; i++) {
            due(-10 - place[i], text(0, bad[i]), "text " + bad[i]);
            due(0, x.count(8), "bytes behind a fault");
        }
        due(0, x.count(4), "texts behind faults");
        x.feed('b');
        for (int day : NO_DAYS) {
            due(BEYOND, x.text(day), "text on day " + day);
        }
        due(1, x.count(8), "the tape stays where it isn't a day");
        due(1, text(9999, "1;"), "the tape went on");
        due(2, text(5, ""), "a text without rows");
        for (int i = 3; i <= 6; i++) {
            due(i, text(0, "b000;d00;f0v;f7c;f1t;f2r;b999;d99;"), "text " + i);
        }
        due(0, x.count(8), "bytes behind a text");
        due(FULL, text(0, "zz"), "text 7");
        due(2, x.count(8), "the tape stays where texts are full");
        due(BEYOND, x.text(-1), "beyond comes ahead of full");
    }

    private void promise12() {
        x = new Asked();
        due(NONE, x.says(0, 0), "says without a text");
        text(10, "b7;d50;f0v;f1c;f2t;f3r;b300;d5;f1c;");
        int[] want = {0b0001, 0b0011, 0b0111, 0b1001};
        for (int kind = 0; kind < 4; kind++) {
            due(want[kind], x.says(10, 10 + kind), "faults that fail kind " + kind);
        }
        due(300, x.says(9999, 0), "the least brake, of two rows the last");
        due(5, x.says(9999, 1), "the hundredths, of two rows the last");
        due(NONE, x.says(9, 0), "says ahead of the first text");
        text(20, "b2;");
        text(15, "b3;");
        due(300, x.says(14, 0), "the text from day 10");
        due(3, x.says(15, 0), "the text from day 15");
        due(3, x.says(20, 0), "the text told last, though another is from a later day");
        due(100, x.says(20, 1), "no row d");
        due(0, x.says(20, 10), "no row f");
        text(30, "b9;d8;f5v;f6r;x");
        due(3, x.says(30, 0), "a text with a fault is none");
        text(30, "");
        due(0, x.says(30, 0), "no row b");
        due(100, x.says(30, 1), "no row d, though there was one in a text with a fault");
        for (int kind = 0; kind < 4; kind++) {
            due(0, x.says(30, 10 + kind), "no row f, though there were some in a text with a fault");
        }
        for (int what : new int[] {-1, 2, 9, 14, Integer.MIN_VALUE, Integer.MAX_VALUE}) {
            due(BEYOND, x.says(20, what), "says what " + what);
            due(BEYOND, x.says(9, what), "beyond comes ahead of none");
        }
        for (int day : NO_DAYS) {
            due(BEYOND, x.says(day, 0), "says on day " + day);
        }
    }

    private int verdictOf(int vehicle, int faults, int left, int right) {
        return x.verdict(x.test(100 * vehicle, 100, 20000 + faults, 0, 1000 * left + right));
    }

    private void promise13() {
        open(1).vehicles(0, 1, 2, 3);
        due(1, x.verdict(x.test(0, 99, 20255, 0, 0)), "without a text all pass");
        due(1, text(100, "b300;d20;f0v;f1c;f2t;f3r;"), "the text");
        int[] allowed = {0b11111110, 0b11111100, 0b11111000, 0b11110110};
        for (int kind = 0; kind < 4; kind++) {
            due(1, verdictOf(kind, allowed[kind], 400, 400), "faults that do not fail kind " + kind);
            for (int fault = 0; fault < 8; fault++) {
                due(allowed[kind] >> fault & 1, verdictOf(kind, 1 << fault, 400, 400), "fault " + fault + " of kind " + kind);
            }
        }
        int[][] brakes = {{300, 300, 1}, {299, 300, 0}, {300, 299, 0}, {400, 320, 1}, {320, 400, 1}, {400, 319, 0},
            {319, 400, 0}, {401, 320, 0}, {401, 321, 1}, {999, 800, 1}, {999, 799, 0}};
        for (int[] b : brakes) {
            due(b[2], verdictOf(1, 0, b[0], b[1]), "brakes " + b[0] + " " + b[1]);
        }
        due(1, verdictOf(3, 0, 0, 999), "a trailer's brakes aren't asked");
        due(1, x.verdict(0), "a day ahead of the text");
        text(99, "f7v;");
        due(0, x.verdict(0), "a text told later, from that day on");
        noTestIsBeyond("verdict");
    }

    private void promise14() {
        open(1).vehicles(1);
        text(0, "f0v;");
        due(0, x.unlike(plain(0, 0, 0, PASSED)), "passed rightly");
        due(1, x.unlike(plain(0, 0, 0, PASSED + 1)), "passed wrongly");
        due(2, x.unlike(plain(0, 0, 0, 2)), "failed wrongly");
        due(0, x.unlike(plain(0, 0, 0, 1)), "failed rightly");
        noTestIsBeyond("unlike");
    }

    private void rates(int garage, int... want) {
        for (int what = 0; what < want.length; what++) {
            due(want[what], x.rate(garage, what), "rate " + what + " of garage " + garage);
        }
    }

    private void promise15() {
        open(3).vehicles(1);
        rates(2, 0, 0, 0, 0, 0, 0, 1);
        for (int i = 0; i < 3; i++) {
            plain(0, 0, i, PASSED);
            plain(0, 1, i, 0);
        }
        // 3 of 6 passed: a share of 500; the square 2250000 is not above 750000 times (4 and 2).
        rates(0, 3, 3, 1500, 750000, 1500, 0, 1);
        rates(1, 3, 0, 1500, 750000, -1500, 0, 1);
        for (int i = 0; i < 3; i++) {
            plain(0, 0, 3 + i, PASSED);
            plain(0, 1, 3 + i, 0);
        }
        // The square 9000000 is just not above 1500000 times 6.
        rates(0, 6, 6, 3000, 1500000, 3000, 0, 1);
        plain(0, 0, 6, PASSED);
        plain(0, 1, 6, 0);
        rates(0, 7, 7, 3500, 1750000, 3500, 1, 1);
        rates(1, 7, 0, 3500, 1750000, -3500, 2, 1);
        x.vehicle(1, 1, 0);
        timed(1, 2, 7, 0, 19);
        // A third garage is looked at: 12250000 is not above 1750000 times 7.
        rates(0, 7, 7, 3500, 1750000, 3500, 0, 1);
        rates(2, 1, 1, 1000, 0, 0, 0, 2);
        due(2, x.move(2, 0, 7), "the tester of garage 2 moves");
        rates(0, 8, 8, 4500, 1750000, 3500, 1, 2);
        rates(2, 0, 0, 0, 0, 0, 0, 1);
        open(3).vehicles(1);
        plain(0, 2, 0, PASSED);
        for (int i = 0; i < 5; i++) {
            plain(0, 1, 0, 0);
        }
        // 1 of 6 passed: a share of 166; 695556 is above 138444 times 5, but not times (4 and 2).
        rates(2, 1, 1, 166, 138444, 834, 0, 1);
        plain(0, 1, 0, 0);
        plain(0, 1, 0, 0);
        // 1 of 8 passed: a share of 125; 765625 is above 109375 times (4 and 2), and not times 7.
        rates(2, 1, 1, 125, 109375, 875, 1, 1);
        plain(0, 0, 0, 0);
        // A share of 111; 790321 is above 98679 times 7, and garage 0 is looked at by its only test.
        rates(2, 1, 1, 111, 98679, 889, 1, 1);
        due(BEYOND, x.rate(3, 0), "rate of garage 3");
        due(BEYOND, x.rate(-1, 0), "rate of garage -1");
        due(BEYOND, x.rate(0, 7), "rate 7");
        due(BEYOND, x.rate(0, -1), "rate -1");
    }

    private void promise16() {
        open(1);
        x.vehicle(1, 2, 10);
        int[] days = {10, 3 * 365 + 9, 3 * 365 + 10, 6 * 365 + 9, 6 * 365 + 10, 10 * 365 + 9, 10 * 365 + 10, 9999};
        for (int i = 0; i < days.length; i++) {
            due(i % 2 == 0 ? NONE : 1000, x.share(i / 2, 2), "the cell ahead of test " + i);
            plain(0, 0, days[i], i % 2 == 0 ? PASSED : 0);
            due(i % 2 == 0 ? 1000 : 500, x.share(i / 2, 2), "the cell behind test " + i);
        }
        plain(0, 0, 9999, PASSED);
        due(666, x.share(3, 2), "a share is cut");
        due(NONE, x.share(0, 1), "a cell without tests");
        x.vehicle(1, 0, 9999);
        plain(1, 0, 9999, 0);
        due(0, x.share(0, 0), "a share of 0");
        plain(1, 0, 9999, PASSED);
        due(500, x.share(0, 0), "a share that was asked ahead of it");
        int[][] bad = {{-1, 0}, {4, 0}, {0, -1}, {0, 4}};
        for (int[] a : bad) {
            due(BEYOND, x.share(a[0], a[1]), "share " + a[0] + " " + a[1]);
        }
    }

    private void promise17() {
        open(0).vehicles(0, 1, 2, 3);
        x.garage(100, 200);
        x.tester(0);
        int[] fair = {20, 20, 30, 10};
        for (int kind = 0; kind < 4; kind++) {
            due(0, x.signs(timed(kind, 0, 2 * kind, 100, fair[kind])), "kind " + kind + " takes its minutes");
            due(2, x.signs(timed(kind, 0, 2 * kind + 1, 100, fair[kind] - 1)), "kind " + kind + " is quick");
        }
        due(0, x.signs(timed(1, 0, 50, 100, 100)), "all the hours");
        due(8, x.signs(timed(1, 0, 51, 99, 101)), "a minute too early");
        due(8, x.signs(timed(1, 0, 52, 100, 101)), "a minute too late");
        due(8, x.signs(timed(1, 0, 53, 200, 20)), "just shut");
        int first = timed(1, 0, 60, 100, 20);
        due(0, x.signs(timed(2, 0, 60, 120, 30)), "one just behind the other");
        due(0, x.signs(first), "one just ahead of the other");
        int third = timed(1, 0, 60, 149, 20);
        due(4, x.signs(third), "a minute in common");
        due(4, x.signs(third - 1), "a minute in common, of the other");
        due(0, x.signs(first), "none in common with the third");
        due(1, text(60, "f0v;"), "a text");
        due(16, x.signs(x.test(100, 1000061, 20257, 0, 999000)), "unlike is 1");
        due(0, x.signs(x.test(100, 1200061, 20000, 0, 888000)), "unlike is 2");
        for (int i = 0; i < 3; i++) {
            x.test(100 * i, 1000070 + i, 30256, 0, 999);
            due(0, x.signs(x.count(3) - 1), "alike to " + i);
        }
        x.test(300, 1000073, 30256, 0, 999);
        due(1, x.signs(x.count(3) - 1), "alike to 3");
        due(1, x.signs(x.count(3) - 4), "the first of them");
        int all = x.test(300, 13000073, 9000 + PASSED + 1, 0, 999);
        due(1 + 2 + 8 + 16, x.signs(all), "all but overlapping");
        noTestIsBeyond("signs");
    }

    private void promise18() {
        open(2).vehicles(1, 1, 1);
        int[][] rows = {{0, 0, 100, 500, 500}, {0, 1, 100, 500, 500}, {1, 0, 100, 501, 499}, {1, 0, 130, 499, 501},
            {1, 0, 131, 500, 500}, {0, 0, 131, 500, 500}, {2, 0, 131, 502, 500}, {2, 0, 131, 500, 498}};
        for (int[] r : rows) {
            x.test(100 * r[0] + r[1], r[2], 20256, 0, 1000 * r[3] + r[4]);
        }
        int[] want = {2, 0, 1, 2, 1, 2, 0, 0};
        for (int i = 0; i < want.length; i++) {
            due(want[i], x.alike(i), "alike of test " + i);
        }
        noTestIsBeyond("alike");
    }

    private int fallOf(int... miles) {
        open(1).vehicles(1, 1);
        for (int m : miles) {
            x.test(0, 0, 20256, m, 0);
            x.test(100, 0, 20256, 999999, 0);
        }
        return x.falls(2);
    }

    private void promise19() {
        due(0, fallOf(5, 5), "the same miles");
        due(0, fallOf(0, 0), "no miles");
        due(0, x.falls(0), "the first one, of no miles");
        open(1).vehicles(1);
        for (int miles : new int[] {50, 40, 50, 49, 48, 40}) {
            x.test(0, 0, 20256, miles, 0);
        }
        due(1, x.falls(1), "one right behind the other: 40 becomes 50");
        due(2, x.falls(3), "one right behind the other: 59 is too much");
        due(2, x.falls(4), "one right behind the other: 49 is too much");
        due(1, x.falls(5), "the last: 40 becomes 48");
        due(1, fallOf(51234, 41234), "the first digit");
        due(2, fallOf(60000, 1234), "a digit fewer");
        due(1, fallOf(51234, 51134, 51300), "a digit within the one behind");
        due(2, fallOf(51234, 51134, 51233), "no digit within the one behind");
        due(1, fallOf(51234, 51134, 51234), "just the one that was ahead and is behind");
        due(2, fallOf(99, 10, 9), "more than the one behind");
        due(1, fallOf(9, 0), "0 becomes one digit");
        due(2, fallOf(10, 0), "0 never becomes two digits");
        due(1, fallOf(1, 0, 1), "0 becomes 1");
        due(1, fallOf(20, 10), "10 becomes 20");
        due(2, fallOf(91, 10), "two digits would change");
        due(2, fallOf(5234, 4999, 5200), "no other digit fits");
        due(2, fallOf(100, 99), "99 has two digits");
        due(1, fallOf(999999, 899999), "six digits");
        due(1, fallOf(54321, 54311), "a digit within");
        due(1, fallOf(20, 15, 40), "15 becomes 25");
        due(2, fallOf(20, 15, 24), "25 is too much, 35 too");
        due(2, fallOf(5, 0, 0), "the one behind does not rise");
        due(0, x.falls(0), "the first one never falls");
        due(0, x.falls(1), "another vehicle's miles do not matter");
        x.vehicle(3, 0, 0);
        int trailer = x.test(200, 0, 20256, 0, 0);
        due(KIND, x.falls(trailer), "a trailer");
        noTestIsBeyond("falls");
    }

    private void promise20() {
        x = new Asked();
        int[] first = {365, 90, 20};
        int[] most = {3650, 1000, 200};
        for (int what = 0; what < 3; what++) {
            due(first[what], x.rule(what, most[what]), "rule " + what + " at first");
            due(BEYOND, x.rule(what, most[what] + 1), "rule " + what + " above its most");
            due(BEYOND, x.rule(what, 0), "rule " + what + " 0");
            due(most[what], x.rule(what, 1), "rule " + what + " was its most");
            due(1, x.rule(what, first[what]), "rule " + what + " was 1");
        }
        due(BEYOND, x.rule(3, 1), "rule 3");
        due(BEYOND, x.rule(-1, 1), "rule -1");
    }

    private void promise21() {
        open(1).vehicles(1);
        int test = timed(0, 0, 0, 0, 1);
        due(0, x.appeal(test, 1), "it was not");
        due(1, x.appeal(test, 1), "it was");
        due(0, x.points(test), "points of an appealed one");
        due(1, x.appeal(test, 0), "it was, and is not");
        due(2, x.points(test), "points of one that is not appealed any longer");
        due(BEYOND, x.appeal(test, 2), "appeal 2");
        due(BEYOND, x.appeal(test, -1), "appeal -1");
        due(BEYOND, x.appeal(1, 1), "test 1");
        due(BEYOND, x.appeal(-1, 1), "test -1");
        due(0, x.appeal(test, 0), "wrong ones changed nothing");
    }

    private void promise22() {
        x = new Asked();
        vehicles(1, 1);
        x.garage(100, 200);
        x.tester(0);
        text(0, "b1;f0c;f1v;f2t;f5c;");
        int worst = x.test(0, 900000, 19256, 0, 0);
        due(9, x.points(worst), "unlike, quick and shut");
        int other = x.test(100, 1000000, 20000, 0, 0);
        due(4, x.points(other), "overlap");
        due(13, x.points(worst), "all of them");
        due(0, x.points(x.test(0, 1000001, 20256, 0, 1001)), "nothing strange");
        x.secret(0b111111);
        due(0b100011, x.visit(0, worst), "missed ones");
        due(43, x.points(worst), "with three missed ones");
        x.appeal(worst, 1);
        due(30, x.points(worst), "appealed, with three missed ones");
        text(0, "f0v;");
        due(10, x.points(worst), "missed ones by a text told later");
        for (int i = 0; i < 5; i++) {
            x.test(100 * (i % 2), 1000002 + i, 20256, 0, 5005);
        }
        due(1, x.signs(4), "alike to three");
        due(0, x.points(4), "alike has no points");
        due(2, x.points(x.test(0, 1000300, 19000, 0, 0)), "unlike is 2 has no points");
        noTestIsBeyond("points");
    }

    private void promise23() {
        open(2).vehicles(1);
        timed(0, 0, 100, 0, 1);
        timed(0, 0, 200, 0, 1);
        timed(0, 1, 200, 0, 1);
        int[][] want = {{99, 0}, {100, 2}, {199, 2}, {200, 4}, {464, 4}, {465, 2}, {564, 2}, {565, 0}, {0, 0}, {9999, 0}};
        for (int[] w : want) {
            due(w[1], x.sum(0, w[0]), "sum on day " + w[0]);
        }
        x.rule(0, 1);
        due(2, x.sum(0, 100), "a lapse of 1: that day alone");
        due(0, x.sum(0, 101), "a lapse of 1: no other");
        x.rule(0, 3650);
        due(4, x.sum(0, 3749), "the longest lapse");
        due(2, x.sum(0, 3750), "just behind it");
        due(2, x.sum(1, 200), "another tester");
        due(BEYOND, x.sum(2, 0), "tester 2");
        due(BEYOND, x.sum(-1, 0), "tester -1");
        for (int day : NO_DAYS) {
            due(BEYOND, x.sum(0, day), "sum on day " + day);
        }
    }

    private void promise24() {
        open(2).vehicles(1);
        x.rule(2, 4);
        x.rule(1, 10);
        x.rule(0, 6);
        timed(0, 0, 100, 0, 1);
        timed(0, 0, 105, 0, 1);
        timed(0, 0, 111, 0, 1);
        // On day 105 alone both are within 6 days; on day 111 the one of 105 is gone.
        int[][] want = {{0, 0}, {100, 0}, {104, 0}, {105, 1}, {106, 1}, {114, 1}, {115, 0}, {9999, 0}};
        for (int[] w : want) {
            due(w[1], x.banned(0, w[0]), "banned on day " + w[0]);
        }
        due(0, x.banned(1, 105), "another tester");
        x.rule(0, 7);
        due(1, x.banned(0, 120), "a longer lapse brings day 111");
        due(0, x.banned(0, 121), "and no more days");
        x.rule(1, 1);
        due(0, x.banned(0, 107), "a ban of 1: no longer");
        due(1, x.banned(0, 106), "a ban of 1, while points last");
        x.rule(2, 5);
        due(0, x.banned(0, 105), "points below the limit");
        x.rule(2, 2);
        due(1, x.banned(0, 100), "points at the limit");
        due(0, x.banned(0, 99), "the day ahead");
        open(1).vehicles(1);
        timed(0, 0, 100, 0, 1);
        x.rule(2, 2);
        x.rule(0, 1);
        due(1, x.banned(0, 110), "by the first test alone");
        x = new Asked();
        vehicles(1).x.garage(100, 200);
        x.tester(0);
        x.tester(0);
        timed(0, 0, 100, 0, 30);
        timed(0, 0, 101, 0, 30);
        x.rule(2, 1);
        x.rule(0, 1);
        due(1, x.banned(0, 110), "by a single point");
        due(BEYOND, x.banned(2, 0), "tester 2");
        due(BEYOND, x.banned(-1, 0), "tester -1");
        for (int day : NO_DAYS) {
            due(BEYOND, x.banned(0, day), "banned on day " + day);
        }
    }

    private void promise25() {
        x = new Asked();
        for (int faults : new int[] {0, -1, 256, Integer.MAX_VALUE}) {
            due(BEYOND, x.secret(faults), "faults " + faults);
        }
        for (int i = 0; i < 6; i++) {
            due(i, x.secret(i == 0 ? 255 : i), "secret car " + i);
        }
        due(FULL, x.secret(1), "secret car 6");
        due(BEYOND, x.secret(0), "beyond comes ahead of full");
    }

    private void promise26() {
        open(1).vehicles(1, 3);
        x.secret(0b1110111);
        plain(0, 0, 10, PASSED + 0b10);
        plain(1, 0, 10, 0);
        plain(0, 0, 10, 0);
        text(10, "f0v;f1c;f2c;f3c;f4r;f5t;");
        due(BEYOND, x.visit(1, 0), "secret car 1");
        due(BEYOND, x.visit(-1, 0), "secret car -1");
        due(BEYOND, x.visit(0, 3), "test 3");
        due(BEYOND, x.visit(0, -1), "test -1");
        due(0b101, x.visit(0, 0), "missed, without the one that was seen");
        due(0b111, x.visit(0, 1), "a car's rules, of a trailer's test too");
        due(STATE, x.visit(0, 0), "a second visit");
        x.secret(1);
        due(STATE, x.visit(1, 0), "a second visit by another car");
        due(BEYOND, x.visit(2, 0), "beyond comes ahead of state");
        due(0b111, x.visit(0, 2), "a car may be sent often");
        due(3, x.count(6), "visits");
        plain(0, 0, 10, 0);
        due(0b1, x.visit(1, 3), "the faults of car 1");
        due(10, x.points(3), "and its points");
        open(1).vehicles(1);
        x.secret(255);
        due(0, x.visit(0, plain(0, 0, 9, 0)), "nothing is missed without a text");
    }

    private void promise27() {
        open(2).vehicles(1);
        x.secret(0b111);
        x.secret(0b1001);
        due(3, x.worth(0, 0), "a garage without tests");
        plain(0, 0, 0, PASSED);
        due(3, x.worth(0, 0), "a garage without signs");
        timed(0, 0, 1, 0, 1);
        timed(0, 0, 1, 0, 30);
        due(4, x.rate(0, 6), "risk of quick, and two that overlap");
        due(12, x.worth(0, 0), "risk times faults");
        due(8, x.worth(1, 0), "risk times two faults");
        due(2, x.worth(1, 1), "the other garage");
        x.visit(0, 0);
        due(0, x.worth(0, 0), "it was sent there");
        due(4, x.worth(1, 0), "one fault was in another car that was sent there");
        due(3, x.worth(0, 1), "it was not sent to the other");
        x.move(0, 1, 0);
        due(3, x.worth(0, 0), "the test is the other garage's now");
        due(0, x.worth(0, 1), "and so is the visit");
        due(4, x.worth(1, 1), "and so are the signs");
        due(BEYOND, x.worth(2, 0), "secret car 2");
        due(BEYOND, x.worth(-1, 0), "secret car -1");
        due(BEYOND, x.worth(0, 2), "garage 2");
        due(BEYOND, x.worth(0, -1), "garage -1");
    }

    private void plans(int... want) {
        for (int secret = -1; secret < want.length - 1; secret++) {
            due(want[secret + 1], x.plan(secret), "plan " + secret);
        }
    }

    private void promise28() {
        open(0);
        x.secret(1);
        plans(0, NONE);
        open(2).vehicles(1);
        timed(0, 0, 0, 0, 1);
        x.secret(0b1);
        x.secret(0b11);
        // Garage 0 has a risk of 2: car 1 is worth 4 there, though car 0 would like it too.
        plans(5, 1, 0);
        x.secret(0b11);
        plans(6, NONE, 0, 1);
        open(2).vehicles(1);
        x.secret(3);
        x.secret(3);
        x.secret(3);
        plans(4, 0, 1, NONE);
        open(3).vehicles(1);
        x.secret(1);
        x.visit(0, plain(0, 0, 0, 0));
        // Worth 0 at garage 0, so the best is at garage 1.
        plans(1, 1);
        x.visit(0, plain(0, 1, 0, 0));
        x.visit(0, plain(0, 2, 0, 0));
        plans(0, 0);
        x.secret(2);
        plans(1, 0, 1);
        open(6).vehicles(1);
        for (int i = 0; i < 6; i++) {
            for (int n = 0; n <= i; n++) {
                timed(0, i, x.count(3), 0, 1);
            }
            x.secret((1 << (6 - i)) - 1);
        }
        // Risks of 2 to 7, faults of 6 to 1: the most faults go to the greatest risk.
        plans(42 + 30 + 20 + 12 + 6 + 2, 5, 4, 3, 2, 1, 0);
        due(BEYOND, x.plan(6), "plan 6");
        due(BEYOND, x.plan(-2), "plan -2");
    }

    private void promise29() {
        open(1).vehicles(1);
        for (int i = 0; i < 3; i++) {
            plain(0, 0, 0, 0);
        }
        due(BEYOND, x.draw(3, 1, 0), "test 3");
        due(BEYOND, x.draw(-1, 1, 0), "test -1");
        due(BEYOND, x.draw(0, 0, 0), "chance 0");
        due(BEYOND, x.draw(0, 101, 0), "chance 101");
        due(BEYOND, x.draw(0, 1, 2), "wrong 2");
        due(BEYOND, x.draw(0, 1, -1), "wrong -1");
        due(1, x.draw(2, 1, 0), "the first");
        due(2, x.draw(0, 100, 1), "the second");
        due(STATE, x.draw(2, 1, 0), "the first again");
        due(BEYOND, x.draw(2, 101, 0), "beyond comes ahead of state");
        due(2, x.count(7), "drawn ones");
    }

    private void promise30() {
        open(1).vehicles(1);
        for (int i = 0; i < 80; i++) {
            plain(0, 0, 0, 0);
        }
        due(NONE, x.error(), "none is drawn");
        x.draw(0, 30, 0);
        due(0, x.error(), "none was wrong");
        x.draw(1, 7, 1);
        // 10000 by 7 is 1428, by 30 it is 333: 1428000 by 1761.
        due(810, x.error(), "weights are cut");
        x.draw(2, 100, 1);
        due(821, x.error(), "1528000 by 1861");
        open(1).vehicles(1);
        x.draw(plain(0, 0, 0, 0), 73, 1);
        x.draw(plain(0, 0, 0, 0), 100, 0);
        due(576, x.error(), "136000 by 236");
        open(1).vehicles(1);
        for (int i = 0; i < 80; i++) {
            x.draw(plain(0, 0, 0, 0), 1, 1);
        }
        due(1000, x.error(), "all of the greatest weight");
    }

    private void promise31() {
        open(1).vehicles(0, 1, 2, 3);
        text(0, "f0v;");
        int[] lasts = {365, 365, 182, 730};
        for (int vehicle = 0; vehicle < 4; vehicle++) {
            due(0, x.leans(vehicle, 100), "without a test");
            plain(vehicle, 0, 100, PASSED + 1);
            due(0, x.leans(vehicle, 99), "ahead of the test");
            due(1, x.leans(vehicle, 100), "on its day");
            due(1, x.leans(vehicle, 100 + lasts[vehicle]), "on the last day");
            due(0, x.leans(vehicle, 101 + lasts[vehicle]), "when it is over");
        }
        due(4, x.leans(-1, 282), "all");
        due(3, x.leans(-1, 283), "all but the taxi");
        due(1, x.leans(-1, 466), "the trailer");
        plain(0, 0, 110, PASSED);
        plain(1, 0, 110, 1);
        plain(2, 0, 110, 0);
        due(4, x.leans(-1, 109), "all, ahead of new tests");
        due(1, x.leans(-1, 110), "the latest tests tell");
        due(0, x.leans(0, 110), "passed rightly");
        due(0, x.leans(1, 110), "failed rightly");
        due(0, x.leans(2, 110), "failed wrongly");
        plain(0, 0, 110, PASSED + 1);
        due(1, x.leans(0, 110), "of one day the last one");
        due(BEYOND, x.leans(4, 0), "vehicle 4");
        due(BEYOND, x.leans(-2, 0), "vehicle -2");
        for (int day : NO_DAYS) {
            due(BEYOND, x.leans(0, day), "leans on day " + day);
            due(BEYOND, x.leans(-1, day), "all on day " + day);
        }
    }

    private void promise32() {
        x = new Asked();
        for (int i = 1; i <= 8; i++) {
            due(i, x.tell(i % 2 == 0 ? Integer.MIN_VALUE : Integer.MAX_VALUE), "number " + i);
        }
        due(FULL, x.tell(0), "number 9");
        due(8, x.count(9), "numbers that wait");
        due(1, x.check(0), "they are gone");
        due(1, x.tell(0), "number 1 again");
    }

    private int check(int day, int... numbers) {
        for (int v : numbers) {
            x.tell(v);
        }
        int answer = x.check(day);
        due(0, x.count(9), "none waits behind a check");
        return answer;
    }

    private void promise33() {
        open(3).vehicles(1);
        timed(0, 0, 10, 0, 1);
        timed(0, 2, 10, 0, 1);
        due(0, check(10), "nothing");
        due(0, check(10, 2), "one");
        due(0, check(10, 2, 0, 2), "all");
        due(1, check(9, 2, 0, 2), "another day");
        due(2, check(10, 2, 1, 1), "the first that isn't");
        due(3, check(10, 2, 0, 0), "the last");
        due(4, check(10, 2, 0, 2, 0), "no tester");
        for (int day : NO_DAYS) {
            due(BEYOND, check(day, 2), "day " + day);
        }
    }

    private void promise34() {
        open(2).vehicles(1, 1, 1);
        x.tester(0);
        timed(0, 0, 0, 0, 30);
        timed(0, 0, 0, 29, 30);
        timed(0, 0, 0, 59, 30);
        timed(0, 0, 0, 89, 1);
        text(0, "b0;");
        x.secret(1);
        x.secret(2);
        x.visit(0, 0);
        x.visit(1, 1);
        x.visit(1, 2);
        x.draw(0, 5, 0);
        x.feed(0);
        x.feed(0);
        x.tell(1);
        int[] want = {3, 2, 3, 4, 1, 2, 3, 1, 2, 1, 3};
        for (int what = 0; what < want.length; what++) {
            due(want[what], x.count(what), "count " + what);
        }
        for (int what : new int[] {-1, 11, Integer.MIN_VALUE, Integer.MAX_VALUE}) {
            due(BEYOND, x.count(what), "count " + what);
        }
    }

    private void promise35() {
        open(1).vehicles(1);
        plain(0, 0, 0, 0);
        due(NONE, x.error(), "none");
        due(NONE, x.share(3, 3), "none");
        x.draw(0, 1, 1);
        due(STATE, x.draw(0, 1, 1), "state");
        for (int i = 0; i < 11; i++) {
            x.tell(0);
        }
        for (int i = 0; i < 4; i++) {
            due(KIND, x.as(0, 3), "kind");
        }
        due(-10, text(0, "x"), "a fault is no finding");
        int[] want = {0, 0, 2, 1, 3, 4};
        for (int k = 1; k <= 5; k++) {
            due(want[k], x.found(k), "found " + k);
        }
        for (int k : new int[] {0, 6, -1, Integer.MIN_VALUE, Integer.MAX_VALUE}) {
            due(BEYOND, x.found(k), "found " + k);
        }
        due(5, x.found(1), "those were counted");
        due(BEYOND, x.check(-1), "beyond");
        due(6, x.found(1), "and this one too");
    }

    /** Nothing is left free, and every call still answers. */
    private void fullObject() {
        open(6).vehicles(1, 2, 3, 0);
        x.tester(0);
        x.tester(0);
        for (int i = 4; i < 24; i++) {
            x.vehicle(1, 3, 0);
        }
        for (int i = 0; i < 30; i++) {
            x.move(7, i % 6, i);
        }
        for (int i = 0; i < 6; i++) {
            String rows = i < 5 ? "b1;" : "f0v;f1v;f2v;f3v;f4v;f5v;f6v;f7v;b99;d00;f0v;f1v;f2v;f3v;f4v;";
            due(i + 1, text(0, rows), "text " + i);
            x.secret(255);
        }
        for (int i = 0; i < 80; i++) {
            x.test(2307, 9999, 1256, 80 - i, 0);
            x.visit(5, i);
            x.draw(i, 1, i % 2);
        }
        due(0, x.alike(79), "alike");
        due(2 + 4 + 16, x.signs(79), "signs");
        due(92, x.points(79), "points");
        due(80 * 92, x.sum(7, 9999), "sum");
        due(1, x.banned(7, 9999), "banned");
        due(0, x.banned(6, 9999), "banned, another");
        due(1, x.falls(79), "falls");
        due(80, x.rate(5, 0), "rate 0");
        due(0, x.rate(5, 5), "rate 5");
        due(241, x.rate(5, 6), "rate 6");
        due(1000, x.share(3, 3), "share");
        due(80, x.count(10), "count");
        due(500, x.error(), "error");
        due(0, x.worth(5, 5), "worth");
        plans(40, 0, 1, 2, 3, 4, 5);
        due(1, x.leans(-1, 9999), "leans");
        for (int i = 0; i < 8; i++) {
            x.tell(i == 7 ? 80 * 92 : 0);
        }
        due(0, x.check(9999), "check");
    }

    private void all() {
        promise = 1; promise1();
        promise = 2; promise2();
        promise = 3; promise3();
        promise = 4; promise4();
        promise = 5; promise5();
        promise = 6; promise6();
        promise = 7; promise7();
        promise = 8; promise8();
        promise = 9; promise9();
        promise = 10; promise10();
        promise = 11; promise11();
        promise = 12; promise12();
        promise = 13; promise13();
        promise = 14; promise14();
        promise = 15; promise15();
        promise = 16; promise16();
        promise = 17; promise17();
        promise = 18; promise18();
        promise = 19; promise19();
        promise = 20; promise20();
        promise = 21; promise21();
        promise = 22; promise22();
        promise = 23; promise23();
        promise = 24; promise24();
        promise = 25; promise25();
        promise = 26; promise26();
        promise = 27; promise27();
        promise = 28; promise28();
        promise = 29; promise29();
        promise = 30; promise30();
        promise = 31; promise31();
        promise = 32; promise32();
        promise = 33; promise33();
        promise = 34; promise34();
        promise = 35; promise35();
        promise = 0; fullObject();
    }

    public static void main(String[] args) {
        new PromisesTest().all();
        System.out.println(wrong == 0 ? "all promises hold" : wrong + " answers are not as due");
        if (wrong > 0) {
            System.exit(1);
        }
    }
}
