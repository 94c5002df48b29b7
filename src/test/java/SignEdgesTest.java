/** The edges of garages beyond chance, of signs and of miles that fall: promises 15 to 19. */
public final class SignEdgesTest extends Edges {

    private void rates(int garage, int... want) {
        for (int what = 0; what < want.length; what++) {
            due(want[what], x.rate(garage, what), "rate " + what + " of garage " + garage);
        }
    }

    /** So many tests by a tester, each on a day of its own. */
    private void passes(int many, int tester) {
        for (int i = 0; i < many; i++) {
            trial().tester(tester).day(x.count(3)).on(x);
        }
    }

    private void fails(int many, int tester) {
        for (int i = 0; i < many; i++) {
            trial().tester(tester).day(x.count(3)).failed().on(x);
        }
    }

    // ---- promise 15: rate

    @Says(promise = 15, value = "A GARAGE passes TOO MANY (1) if MORE is above 0 and its square is above SPREAD times (4 and LOOKED)")
    void tooManyIsAboveTheSpread() {
        garages(2);
        vehicles(1);
        passes(6, 0);
        fails(6, 1);
        // The square 9000000 is 1500000 times (4 and 2).
        rates(0, 6, 6, 3000, 1500000, 3000, 0, 1);
        passes(1, 0);
        fails(1, 1);
        // The square 12250000 is above 1750000 times 6, which is 10500000.
        rates(0, 7, 7, 3500, 1750000, 3500, 1, 1);
    }

    @Says(promise = 15, value = "TOO FEW (2) if below 0, likewise; else 0.")
    void tooFewIsAboveTheSpread() {
        garages(2);
        vehicles(1);
        passes(6, 0);
        fails(6, 1);
        rates(1, 6, 0, 3000, 1500000, -3000, 0, 1);
        passes(1, 0);
        fails(1, 1);
        rates(1, 7, 0, 3500, 1750000, -3500, 2, 1);
    }

    @Says(promise = 15, value = "TOO FEW (2) if below 0, likewise; else 0.")
    void neitherMoreNorLess() {
        garages(2);
        vehicles(1);
        passes(3, 0);
        fails(3, 0);
        rates(0, 6, 3, 3000, 1500000, 0, 0, 1);
        fresh();
        garages(1);
        vehicles(1);
        passes(80, 0);
        rates(0, 80, 80, 80000, 0, 0, 0, 1);
        fresh();
        garages(1);
        vehicles(1);
        fails(80, 0);
        rates(0, 80, 0, 0, 0, 0, 0, 1);
    }

    @Says(promise = 15, value = "LOOKED: how many GARAGES have TESTS.")
    void lookedAreGaragesWithTests() {
        garages(6);
        vehicles(1);
        passes(7, 0);
        fails(7, 1);
        due(1, x.rate(0, 5), "four garages without tests do not count");
        x.vehicle(1, 3, 0);
        trial().vehicle(1).tester(2).day(14).on(x);
        // Of a cell of its own: the square 12250000 is just 1750000 times (4 and 3).
        due(0, x.rate(0, 5), "a third garage with a test");
        due(0, x.rate(1, 5), "a third garage with a test, too few");
        due(2, x.move(2, 0, 14), "its tester is at garage 0 now");
        due(1, x.rate(0, 5), "two garages again");
        due(2, x.rate(1, 5), "two garages again, too few");
    }

    @Says(promise = 15, value = "LOOKED: how many GARAGES have TESTS.")
    void lookedByASingleTest() {
        garages(3);
        vehicles(1);
        passes(1, 2);
        fails(7, 1);
        // A share of 125: the square 765625 is 109375 times (4 and 3), and garage 0 is not looked at.
        rates(2, 1, 1, 125, 109375, 875, 1, 1);
        fresh();
        garages(3);
        vehicles(1);
        x.vehicle(1, 1, 0);
        trial().vehicle(1).tester(0).on(x);
        passes(1, 2);
        fails(7, 1);
        // Garage 0 is looked at now, by the first test of all.
        rates(2, 1, 1, 125, 109375, 875, 0, 1);
    }

    @Says(promise = 15, value = "EXPECTED of a GARAGE: SHARES of the CELLS of all its TESTS together. SPREAD: of all its TESTS SHARE times (1000 less SHARE), together. MORE: 1000 times its TESTS that PASSED, less EXPECTED.")
    void sharesAreCutAheadOfTheSum() {
        garages(2);
        x.vehicle(1, 0, 0);
        x.vehicle(1, 1, 0);
        passes(2, 0);
        fails(1, 1);
        // A share of 666 by two of three.
        rates(0, 2, 2, 1332, 2 * 666 * 334, 668, 0, 1);
        rates(1, 1, 0, 666, 666 * 334, -666, 0, 1);
        trial().vehicle(1).tester(1).day(3).on(x);
        trial().vehicle(1).tester(0).day(3).minute(100).failed().on(x);
        rates(0, 3, 2, 1832, 2 * 666 * 334 + 250000, 168, 0, 1);
        rates(1, 2, 1, 1166, 666 * 334 + 250000, -166, 0, 1);
    }

    @Says(promise = 15, value = "EXPECTED of a GARAGE: SHARES of the CELLS of all its TESTS together.")
    void asManyTestsAsThereMayBe() {
        garages(2);
        vehicles(1);
        passes(40, 0);
        fails(40, 1);
        rates(0, 40, 40, 20000, 10000000, 20000, 1, 1);
        rates(1, 40, 0, 20000, 10000000, -20000, 2, 1);
    }

    @Says(promise = 15, value = "Of a GARAGE: 0 TESTS, 1 that PASSED, 2 EXPECTED, 3 SPREAD, 4 MORE, 5 TOO MANY (1), FEW (2), 6 RISK. BEYOND.")
    void aGarageWithoutTests() {
        garages(2);
        vehicles(1);
        rates(0, 0, 0, 0, 0, 0, 0, 1);
        passes(2, 0);
        rates(1, 0, 0, 0, 0, 0, 0, 1);
    }

    @Says(promise = 15, value = "Of a GARAGE: 0 TESTS, 1 that PASSED, 2 EXPECTED, 3 SPREAD, 4 MORE, 5 TOO MANY (1), FEW (2), 6 RISK. BEYOND.")
    void rateBeyond() {
        due(BEYOND, x.rate(0, 0), "ahead of the first garage");
        garages(2);
        dueOfEach(BEYOND, new int[] {-1, 2, 6}, "rate", 0, 0, 0);
        dueOfEach(BEYOND, FAR, "rate", 0, 0, 0);
        dueOfEach(BEYOND, new int[] {-1, 7}, "rate", 1, 0, 0);
        dueOfEach(BEYOND, FAR, "rate", 1, 0, 0);
        due(0, x.rate(1, 0), "the last garage, what 0");
        due(1, x.rate(1, 6), "the last garage, what 6");
    }

    @Says(promise = 15, value = "RISK of a GARAGE: how many SIGNS its TESTS have together (each bit one), and 1.")
    void riskCountsEachSign() {
        x.garage(100, 200);
        x.garage(0, 1440);
        x.tester(0);
        vehicles(1);
        text(0, "f0v;");
        due(1, x.rate(0, 6), "no tests");
        trial().minute(100).on(x);
        due(1, x.rate(0, 6), "a test without signs");
        trial().minute(100).minutes(19).on(x);
        due(4, x.rate(0, 6), "quick, and two that overlap");
        trial().day(1).minute(99).minutes(1).faults(1).on(x);
        due(7, x.rate(0, 6), "three signs of one test");
        x.move(0, 1, 1);
        due(4, x.rate(0, 6), "the third test is another garage's");
        due(3, x.rate(1, 6), "and is not shut there");
    }

    // ---- promise 16: share

    @Says(promise = 16, value = "AGE class of a TEST (years of 365 days since BUILT: below 3 0, below 6 1, below 10 2, else 3), MAKE.")
    void ageClasses() {
        int[][] want = {{0, 0}, {1094, 0}, {1095, 1}, {2189, 1}, {2190, 2}, {3649, 2}, {3650, 3}, {9994, 3}};
        for (int[] w : want) {
            fresh();
            garages(1);
            x.vehicle(1, 3, 5);
            trial().day(5 + w[0]).on(x);
            for (int age = 0; age < 4; age++) {
                due(age == w[1] ? 1000 : NONE, x.share(age, 3), "class " + age + ", " + w[0] + " days old");
            }
        }
    }

    @Says(promise = 16, value = "AGE class of a TEST (years of 365 days since BUILT: below 3 0, below 6 1, below 10 2, else 3), MAKE.")
    void cellsAreOfOneMake() {
        garages(1);
        for (int make = 0; make < 4; make++) {
            x.vehicle(make, make, 0);
        }
        trial().vehicle(0).on(x);
        trial().vehicle(3).on(x);
        due(1000, x.share(0, 3), "make 3, by one test");
        trial().vehicle(3).failed().on(x);
        trial().vehicle(3).failed().on(x);
        due(1000, x.share(0, 0), "make 0");
        due(NONE, x.share(0, 1), "make 1");
        due(NONE, x.share(0, 2), "make 2");
        due(333, x.share(0, 3), "make 3");
        due(333, x.share(0, 3), "make 3, asked again");
    }

    @Says(promise = 16, value = "SHARE of a CELL: 1000 times those that PASSED, by how many TESTS.")
    void aShareIsCut() {
        garages(1);
        vehicles(1);
        passes(2, 0);
        fails(1, 0);
        due(666, x.share(0, 0), "2 of 3");
        fails(4, 0);
        due(285, x.share(0, 0), "2 of 7");
        passes(5, 0);
        due(583, x.share(0, 0), "7 of 12");
        fresh();
        garages(1);
        vehicles(1);
        passes(1, 0);
        fails(79, 0);
        due(12, x.share(0, 0), "1 of 80");
        fresh();
        garages(1);
        vehicles(1);
        passes(79, 0);
        fails(1, 0);
        due(987, x.share(0, 0), "79 of 80");
    }

    @Says(promise = 16, value = "SHARE of a CELL. BEYOND. NONE: it has no TESTS.")
    void shareBeyondAndNone() {
        due(NONE, x.share(0, 0), "nothing is told");
        due(NONE, x.share(3, 3), "nothing is told, the last cell");
        garages(1);
        vehicles(1);
        due(NONE, x.share(0, 0), "a vehicle without tests");
        for (int place = 0; place < 2; place++) {
            dueOfEach(BEYOND, new int[] {-1, 4}, "share", place, 3, 3);
            dueOfEach(BEYOND, FAR, "share", place, 3, 3);
        }
        trial().failed().on(x);
        due(0, x.share(0, 0), "a share of 0 is not none");
    }

    // ---- promise 17: signs

    private void quick(int want, int kind, int minutes) {
        int test = trial().vehicle(kind).day(x.count(3)).minutes(minutes).brakes(100 * kind, 0).on(x);
        due(want, x.signs(test), minutes + " minutes, kind " + kind);
    }

    @Says(promise = 17, value = "QUICK: it took fewer minutes than 20 (a TAXI 30, a TRAILER 10).")
    void quickOfEachKind() {
        garages(1);
        vehicles(0, 1, 2, 3);
        int[] fair = {20, 20, 30, 10};
        for (int kind = 0; kind < 4; kind++) {
            quick(2, kind, 1);
            quick(2, kind, fair[kind] - 1);
            quick(0, kind, fair[kind]);
            quick(0, kind, 240);
        }
    }

    private void overlap(int want, int firstMinute, int firstMinutes, int minute, int minutes) {
        fresh();
        garages(1);
        vehicles(3, 3);
        trial().minute(firstMinute).minutes(firstMinutes).on(x);
        trial().vehicle(1).minute(minute).minutes(minutes).brakes(0, 0).on(x);
        String what = "from " + firstMinute + " for " + firstMinutes + ", from " + minute + " for " + minutes;
        due(want, x.signs(0) & 4, "the first: " + what);
        due(want, x.signs(1) & 4, "the second: " + what);
    }

    @Says(promise = 17, value = "OVERLAP: another TEST of its TESTER on that DAY has a minute in common.")
    void aMinuteInCommon() {
        overlap(0, 100, 20, 120, 20);
        overlap(4, 100, 20, 119, 20);
        overlap(0, 100, 20, 80, 20);
        overlap(4, 100, 20, 81, 20);
        overlap(4, 100, 20, 100, 20);
        overlap(4, 100, 20, 110, 1);
        overlap(4, 110, 1, 100, 20);
        overlap(4, 100, 1, 100, 1);
        overlap(0, 100, 1, 101, 1);
        overlap(0, 0, 1, 1439, 1);
        overlap(4, 1200, 240, 1439, 1);
        overlap(0, 1200, 239, 1439, 1);
    }

    @Says(promise = 17, value = "OVERLAP: another TEST of its TESTER on that DAY has a minute in common.")
    void overlapIsOfOneTesterAndOneDay() {
        garages(2);
        vehicles(1, 1);
        due(0, x.signs(trial().day(5).on(x)), "alone");
        due(0, x.signs(trial().tester(1).day(5).on(x)), "another tester");
        due(0, x.signs(trial().day(6).on(x)), "another day");
        due(0, x.signs(0), "the first still");
        due(4, x.signs(trial().day(6).on(x)), "the same vehicle too");
        due(4, x.signs(2), "the one that it overlaps");
        due(0, x.signs(1), "not the other tester's");
    }

    private void shut(int want, int from, int to, int minute, int minutes) {
        fresh();
        x.garage(from, to);
        x.tester(0);
        vehicles(3);
        trial().minute(minute).minutes(minutes).on(x);
        due(want, x.signs(0) & 8, "open from " + from + " to " + to + ", tested from " + minute + " for " + minutes);
    }

    @Says(promise = 17, value = "SHUT: a minute of it is not within its GARAGE's hours.")
    void aMinuteNotWithinTheHours() {
        shut(0, 480, 600, 480, 120);
        shut(8, 480, 600, 479, 120);
        shut(8, 480, 600, 480, 121);
        shut(8, 480, 600, 481, 120);
        shut(0, 480, 600, 599, 1);
        shut(8, 480, 600, 600, 1);
        shut(0, 480, 600, 480, 1);
        shut(8, 480, 600, 479, 1);
        shut(8, 480, 600, 470, 240);
        shut(0, 0, 1440, 0, 240);
        shut(0, 0, 1440, 1200, 240);
        shut(0, 0, 1, 0, 1);
        shut(8, 0, 1, 0, 2);
        shut(0, 1439, 1440, 1439, 1);
        shut(8, 1439, 1440, 1438, 2);
    }

    @Says(promise = 17, value = "SHUT: a minute of it is not within its GARAGE's hours.")
    void shutByTheGarageOfItsDay() {
        x.garage(100, 200);
        x.garage(0, 1440);
        x.tester(0);
        vehicles(1);
        trial().day(10).on(x);
        due(8, x.signs(0), "at garage 0");
        x.move(0, 1, 11);
        due(8, x.signs(0), "a move behind its day");
        fresh();
        x.garage(100, 200);
        x.garage(0, 1440);
        x.tester(0);
        vehicles(1);
        trial().day(10).on(x);
        x.move(0, 1, 10);
        due(0, x.signs(0), "a move on its day");
    }

    @Says(promise = 17, value = "SIGNS of a TEST: 1 for ALIKE above 2")
    void aSignForMoreThanTwoAlike() {
        garages(1);
        vehicles(1, 1, 1, 1);
        for (int i = 0; i < 3; i++) {
            trial().vehicle(i).day(i).on(x);
        }
        for (int i = 0; i < 3; i++) {
            due(2, x.alike(i), "alike of " + i);
            due(0, x.signs(i), "two are alike to " + i);
        }
        trial().vehicle(3).day(3).on(x);
        for (int i = 0; i < 4; i++) {
            due(3, x.alike(i), "alike of " + i);
            due(1, x.signs(i), "three are alike to " + i);
        }
    }

    @Says(promise = 17, value = "16 UNLIKE is 1, together.")
    void aSignForUnlikeOneAlone() {
        garages(1);
        vehicles(1);
        text(0, "f0v;");
        due(16, x.signs(trial().faults(1).on(x)), "passed, but should not have");
        due(0, x.signs(trial().day(1).failed().on(x)), "failed, but should have passed");
        due(0, x.signs(trial().day(2).failed().faults(1).on(x)), "failed rightly");
        due(0, x.signs(trial().day(3).faults(2).on(x)), "passed rightly");
    }

    @Says(promise = 17, value = "1 for ALIKE above 2, 2 QUICK, 4 OVERLAP, 8 SHUT, 16 UNLIKE is 1, together.")
    void allSignsTogether() {
        x.garage(100, 200);
        x.tester(0);
        vehicles(1, 1, 1, 1);
        text(0, "b501;");
        for (int i = 0; i < 4; i++) {
            trial().vehicle(i).minute(81).minutes(19).on(x);
        }
        for (int i = 0; i < 4; i++) {
            due(31, x.signs(i), "test " + i);
        }
        due(4, x.count(10), "tests with signs");
        due(21, x.rate(0, 6), "risk");
    }

    @Says(promise = 17, value = "SIGNS of a TEST. BEYOND.")
    void signsBeyond() {
        asksOfOneTest("signs", 0);
    }

    // ---- promise 18: alike

    private void alike(int want, Trial first, Trial second) {
        fresh();
        garages(2);
        vehicles(1, 3);
        first.on(x);
        second.on(x);
        due(want, x.alike(0), "the first");
        due(want, x.alike(1), "the second");
    }

    @Says(promise = 18, value = "ALIKE: how many other TESTS of its TESTER, of other VEHICLES")
    void alikeOfOneTesterAndOtherVehicles() {
        alike(1, trial(), trial().vehicle(1));
        alike(0, trial(), trial());
        alike(0, trial(), trial().vehicle(1).tester(1));
    }

    @Says(promise = 18, value = "not more than 30 days from it")
    void alikeWithinThirtyDays() {
        alike(1, trial().day(100), trial().vehicle(1).day(130));
        alike(0, trial().day(100), trial().vehicle(1).day(131));
        alike(1, trial().day(0), trial().vehicle(1).day(30));
        alike(0, trial().day(0), trial().vehicle(1).day(9999));
        alike(1, trial().day(9969), trial().vehicle(1).day(9999));
    }

    @Says(promise = 18, value = "have both BRAKES 1 or less from its own.")
    void bothBrakesOneOrLess() {
        for (int left = -2; left <= 2; left++) {
            for (int right = -2; right <= 2; right++) {
                int want = Math.abs(left) <= 1 && Math.abs(right) <= 1 ? 1 : 0;
                alike(want, trial(), trial().vehicle(1).brakes(500 + left, 500 + right));
            }
        }
        alike(1, trial().brakes(0, 999), trial().vehicle(1).brakes(1, 998));
        alike(0, trial().brakes(0, 999), trial().vehicle(1).brakes(999, 0));
        alike(0, trial().brakes(1, 0), trial().vehicle(1).brakes(0, 999));
    }

    @Says(promise = 18, value = "ALIKE: how many other TESTS of its TESTER, of other VEHICLES")
    void asManyAlikeAsThereMayBe() {
        garages(1);
        vehicles(1, 1);
        due(0, x.alike(trial().vehicle(1).on(x)), "alone");
        for (int i = 1; i < 80; i++) {
            trial().on(x);
        }
        due(79, x.alike(0), "the one of vehicle 1");
        due(1, x.alike(79), "one of vehicle 0");
    }

    @Says(promise = 18, value = "ALIKE. BEYOND.")
    void alikeBeyond() {
        asksOfOneTest("alike", 0);
    }

    // ---- promise 19: falls

    /** What the second of some tests of a car answers, while another car is tested in between. */
    private void fall(int want, int... miles) {
        fresh();
        garages(1);
        vehicles(1, 1);
        StringBuilder all = new StringBuilder();
        for (int m : miles) {
            trial().miles(m).on(x);
            trial().vehicle(1).miles(500000).on(x);
            all.append(' ').append(m);
        }
        due(want, x.falls(2), "the second of" + all);
    }

    @Says(promise = 19, value = "MILES of a VEHICLE's TESTS, as they came: one FALLS if it is less than that of the one ahead.")
    void lessThanTheOneAhead() {
        fall(0, 1000, 1000);
        fall(0, 1000, 1001);
        fall(2, 1000, 999);
        fall(1, 999, 998);
        fall(0, 0, 0);
        fall(0, 999999, 999999);
    }

    @Says(promise = 19, value = "MILES of a VEHICLE's TESTS, as they came: one FALLS if it is less than that of the one ahead.")
    void theFirstOneNeverFalls() {
        garages(1);
        vehicles(1, 1);
        trial().miles(999999).on(x);
        trial().vehicle(1).miles(0).on(x);
        due(0, x.falls(0), "the first");
        due(0, x.falls(1), "the first of another vehicle");
        trial().miles(0).on(x);
        trial().miles(0).on(x);
        due(2, x.falls(2), "the second");
        due(0, x.falls(3), "the third, as the second");
    }

    @Says(promise = 19, value = "MILES of a VEHICLE's TESTS, as they came")
    void theOneAheadIsTheLatestOfTheVehicle() {
        garages(2);
        vehicles(1, 1);
        trial().miles(100).day(5).minute(700).on(x);
        trial().miles(500).day(5).minute(100).tester(1).on(x);
        trial().miles(400).day(6).on(x);
        due(0, x.falls(0), "the first, though it was tested at a later minute");
        due(0, x.falls(1), "the second");
        due(1, x.falls(2), "the third, less than the second");
    }

    @Says(promise = 19, value = "some number of as many digits")
    void asManyDigits() {
        fall(2, 10, 9);
        fall(2, 100, 99);
        fall(2, 100000, 99999);
        fall(1, 99, 98);
        fall(1, 999999, 899999);
        fall(1, 999999, 999998);
        fall(2, 510000, 51000);
    }

    @Says(promise = 19, value = "(none 0 ahead, but of 0 itself and of other numbers of one digit)")
    void numbersOfOneDigit() {
        fall(1, 1, 0);
        fall(1, 9, 0);
        fall(2, 10, 0);
        fall(1, 9, 8);
        fall(1, 5, 0, 5);
        fall(2, 5, 0, 4);
        fall(2, 5, 0, 0);
        fall(1, 9, 1, 9);
    }

    @Says(promise = 19, value = "that differs from it in just one digit is not less than that of the one ahead")
    void oneDigitReachesTheOneAhead() {
        fall(1, 51234, 41234);
        fall(1, 51234, 51134);
        fall(1, 51234, 51233);
        fall(1, 90000, 10000);
        fall(1, 91000, 11000);
        fall(2, 90001, 80000, 90000);
        fall(2, 99, 10);
        fall(1, 90, 10);
        fall(2, 91, 10);
        fall(1, 19, 10);
        fall(2, 999999, 888888);
        fall(2, 999999, 989998);
    }

    @Says(promise = 19, value = "and not more than that of the one behind it (if there is one); else CHANGED.")
    void notMoreThanTheOneBehind() {
        fall(1, 51234, 41234);
        fall(1, 51234, 41234, 51234);
        fall(2, 51234, 41234, 51233);
        fall(1, 51200, 51100, 51200);
        fall(1, 51234, 51100, 51900);
        fall(2, 51234, 51100, 51299);
        fall(1, 51234, 51100, 51300);
        fall(2, 51234, 41234, 0);
        fall(1, 20, 15, 25);
        fall(2, 20, 15, 24);
    }

    @Says(promise = 19, value = "and not more than that of the one behind it (if there is one); else CHANGED.")
    void aTestToldLaterIsTheOneBehind() {
        garages(1);
        vehicles(1);
        trial().miles(20).on(x);
        trial().miles(15).on(x);
        due(1, x.falls(1), "none behind it yet");
        trial().miles(24).on(x);
        due(2, x.falls(1), "24 behind it");
        trial().miles(999).on(x);
        due(2, x.falls(1), "the next but one does not matter");
    }

    @Says(promise = 19, value = "0 MILES don't FALL, 1 TYPED, 2 CHANGED. BEYOND. KIND: its VEHICLE is a TRAILER.")
    void fallsBeyondAndKind() {
        garages(1);
        vehicles(3, 0, 1, 2);
        due(BEYOND, x.falls(0), "ahead of the first test");
        trial().on(x);
        dueOfEach(BEYOND, new int[] {-1, 1, 80}, "falls", 0, 0);
        dueOfEach(BEYOND, FAR, "falls", 0, 0);
        due(KIND, x.falls(0), "the first of a trailer");
        trial().on(x);
        due(KIND, x.falls(1), "the second of a trailer");
        for (int vehicle = 1; vehicle < 4; vehicle++) {
            due(0, x.falls(trial().vehicle(vehicle).on(x)), "the first of kind " + (vehicle - 1));
        }
    }

    public static void main(String[] args) throws ReflectiveOperationException {
        runAll(SignEdgesTest.class);
    }
}
