/** The edges of vehicles, garages, testers, moves and tests: promises 1 to 9. */
public final class WhoAndWhereEdgesTest extends Edges {

    // ---- promise 1: a new object

    @Says(promise = 1, value = "No VEHICLES, GARAGES, TESTERS.")
    void nothingIsToldYet() {
        for (int what = 0; what <= 10; what++) {
            due(0, x.count(what), "count " + what);
        }
        for (int k = 1; k <= 5; k++) {
            due(0, x.found(k), "found " + k);
        }
    }

    @Says(promise = 1, value = "No VEHICLES, GARAGES, TESTERS.")
    void noNumberIsKnownYet() {
        for (String name : new String[] {"verdict", "unlike", "signs", "alike", "falls", "points", "tester", "plan"}) {
            due(BEYOND, x.call(name, 0), name + "(0)");
        }
        for (String name : new String[] {"as", "at", "of", "rate", "appeal", "sum", "banned", "visit", "worth", "leans"}) {
            due(BEYOND, x.call(name, 0, 0), name + "(0, 0)");
        }
        due(BEYOND, x.move(0, 0, 0), "move");
        due(BEYOND, x.draw(0, 1, 0), "draw");
        due(BEYOND, x.test(0, 0, 1000, 0, 0), "test");
    }

    @Says(promise = 1, value = "No VEHICLES, GARAGES, TESTERS.")
    void whatCanBeAskedOfNothing() {
        due(NONE, x.says(0, 0), "says");
        due(NONE, x.share(0, 0), "share");
        due(NONE, x.error(), "error");
        due(0, x.leans(-1, 0), "leans");
        due(0, x.plan(-1), "plan");
        due(0, x.check(0), "check");
    }

    @Says(promise = 1, value = "No VEHICLES, GARAGES, TESTERS.")
    void anotherObjectKnowsNothingOfIt() {
        Asked other = new Asked();
        garages(1);
        vehicles(1);
        x.rule(0, 1);
        x.feed(98);
        x.tell(5);
        trial().on(x);
        for (int what = 0; what <= 10; what++) {
            due(0, other.count(what), "count " + what + " of the other");
        }
        due(365, other.rule(0, 365), "the other's rule");
    }

    // ---- promise 2: vehicle

    @Says(promise = 2, value = "VEHICLES 0, 1, .. (at most 24)")
    void twentyFourVehicles() {
        for (int i = 0; i < 24; i++) {
            due(i, x.vehicle(i % 4, 3 - i % 4, 9999 - i), "vehicle " + i);
        }
        due(FULL, x.vehicle(0, 0, 0), "vehicle 24");
        due(FULL, x.vehicle(3, 3, 9999), "vehicle 24 again");
        due(24, x.count(0), "count");
        due(365, x.as(23 - 3, 0), "as of an early one");
        due(730, x.as(23, 3), "as of the last one");
        due(BEYOND, x.as(24, 0), "as of the refused one");
    }

    @Says(promise = 2, value = "are of KINDS: 0 VEHICLE, 1 CAR under VEHICLE, 2 TAXI under CAR, 3 TRAILER under VEHICLE")
    void kindsGoFromZeroToThree() {
        dueOfEach(BEYOND, new int[] {-1, 4}, "vehicle", 0, 0, 0, 0);
        dueOfEach(BEYOND, FAR, "vehicle", 0, 0, 0, 0);
        due(0, x.vehicle(0, 0, 0), "kind 0");
        due(1, x.vehicle(3, 0, 0), "kind 3");
    }

    @Says(promise = 2, value = "each of a MAKE (0 .. 3)")
    void makesGoFromZeroToThree() {
        dueOfEach(BEYOND, new int[] {-1, 4}, "vehicle", 1, 0, 0, 0);
        dueOfEach(BEYOND, FAR, "vehicle", 1, 0, 0, 0);
        due(0, x.vehicle(0, 0, 0), "make 0");
        due(1, x.vehicle(0, 3, 0), "make 3");
    }

    @Says(promise = 2, value = "BUILT on a DAY (0 .. 9999)")
    void builtOnADay() {
        dueOfEach(BEYOND, NO_DAYS, "vehicle", 2, 0, 0, 0);
        dueOfEach(BEYOND, FAR, "vehicle", 2, 0, 0, 0);
        due(0, x.vehicle(0, 0, 0), "day 0");
        due(1, x.vehicle(0, 0, 9999), "day 9999");
    }

    @Says(promise = 2, value = "A VEHICLE: its number. BEYOND. FULL.")
    void aVehicleBeyondWhenFull() {
        for (int i = 0; i < 24; i++) {
            due(i, x.vehicle(0, 0, 0), "vehicle " + i);
        }
        for (int place = 0; place < 3; place++) {
            dueOfEach(BEYOND, new int[] {-1, 10000, LEAST, GREATEST}, "vehicle", place, 0, 0, 0);
        }
        due(FULL, x.vehicle(0, 0, 0), "full alone");
    }

    // ---- promise 3: as

    @Says(promise = 3, value = "DUE behind a test: 365 days (of a TAXI 182, of a TRAILER 730).")
    void dueDaysAreItsOwnWhateverItIsTakenAs() {
        vehicles(0, 1, 2, 3);
        due(365, x.as(0, 0), "a vehicle");
        due(365, x.as(1, 0), "a car as a vehicle");
        due(365, x.as(1, 1), "a car");
        due(182, x.as(2, 0), "a taxi as a vehicle");
        due(182, x.as(2, 1), "a taxi as a car");
        due(182, x.as(2, 2), "a taxi");
        due(730, x.as(3, 0), "a trailer as a vehicle");
        due(730, x.as(3, 3), "a trailer");
    }

    @Says(promise = 3, value = "BEYOND: there is no such one, or kind.")
    void asOfNoVehicleOrKind() {
        vehicles(1, 2);
        dueOfEach(BEYOND, new int[] {-1, 2, 24}, "as", 0, 0, 0);
        dueOfEach(BEYOND, FAR, "as", 0, 0, 0);
        dueOfEach(BEYOND, new int[] {-1, 4}, "as", 1, 0, 0);
        dueOfEach(BEYOND, FAR, "as", 1, 0, 0);
        due(365, x.as(0, 0), "the first vehicle");
        due(182, x.as(1, 2), "the last vehicle");
    }

    @Says(promise = 3, value = "KIND: it isn't of that kind, nor of one under it.")
    void asOfAnotherKind() {
        vehicles(0, 1, 2, 3);
        int[][] others = {{0, 1}, {0, 2}, {0, 3}, {1, 2}, {1, 3}, {2, 3}, {3, 1}, {3, 2}};
        for (int[] other : others) {
            due(KIND, x.as(other[0], other[1]), "vehicle " + other[0] + " as " + other[1]);
        }
        due(8, x.found(5), "findings");
    }

    @Says(promise = 3, value = "BEYOND: there is no such one, or kind. KIND: it isn't of that kind, nor of one under it.")
    void asBeyondComesAheadOfKind() {
        vehicles(3);
        due(KIND, x.as(0, 2), "kind alone");
        due(BEYOND, x.as(1, 2), "no vehicle, and not of that kind");
        due(BEYOND, x.as(0, 4), "no kind, and not of it");
        due(1, x.found(5), "findings KIND");
        due(2, x.found(1), "findings BEYOND");
    }

    // ---- promise 4: garage

    @Says(promise = 4, value = "BEYOND: from isn't 0 .. 1439")
    void garagesOpenWithinTheDay() {
        due(BEYOND, x.garage(-1, 10), "from -1");
        due(BEYOND, x.garage(1440, 1440), "from 1440");
        due(BEYOND, x.garage(1440, 1441), "from 1440 to 1441");
        dueOfEach(BEYOND, FAR, "garage", 0, 0, 1440);
        due(0, x.garage(0, 10), "from 0");
        due(1, x.garage(1439, 1440), "from 1439");
    }

    @Says(promise = 4, value = "or to not above it, 1440 at most.")
    void garagesShutBehindTheirOpening() {
        due(BEYOND, x.garage(700, 700), "to is from");
        due(BEYOND, x.garage(700, 699), "to is ahead of from");
        due(BEYOND, x.garage(0, 0), "to 0");
        due(BEYOND, x.garage(0, -1), "to -1");
        due(BEYOND, x.garage(0, 1441), "to 1441");
        dueOfEach(BEYOND, FAR, "garage", 1, 0, 1440);
        due(0, x.garage(700, 701), "a minute long");
        due(1, x.garage(0, 1), "the first minute");
        due(2, x.garage(0, 1440), "to 1440");
    }

    @Says(promise = 4, value = "OPEN from a minute of the day up to another one (without it; 0 .. 1440).")
    void openWithoutTheLastMinute() {
        x.garage(600, 601);
        x.tester(0);
        vehicles(3);
        due(2 + 8, x.signs(trial().day(0).minute(599).minutes(1).on(x)), "the minute ahead");
        due(2, x.signs(trial().day(1).minute(600).minutes(1).on(x)), "the minute from which it is open");
        due(2 + 8, x.signs(trial().day(2).minute(601).minutes(1).on(x)), "the minute up to which it is open");
    }

    @Says(promise = 4, value = "GARAGES 0, 1, .. (at most 6)")
    void sixGarages() {
        for (int i = 0; i < 6; i++) {
            due(i, x.garage(i, 1440 - i), "garage " + i);
        }
        due(FULL, x.garage(0, 1440), "garage 6");
        due(6, x.count(1), "count");
        due(BEYOND, x.tester(6), "a tester at the refused one");
        due(0, x.tester(5), "a tester at the last one");
    }

    @Says(promise = 4, value = "A GARAGE: its number. BEYOND: from isn't 0 .. 1439, or to not above it, 1440 at most. FULL.")
    void aGarageBeyondWhenFull() {
        for (int i = 0; i < 6; i++) {
            due(i, x.garage(0, 1440), "garage " + i);
        }
        due(BEYOND, x.garage(-1, 1440), "from -1");
        due(BEYOND, x.garage(5, 5), "to is from");
        due(BEYOND, x.garage(0, 1441), "to 1441");
        due(FULL, x.garage(0, 1440), "full alone");
    }

    // ---- promise 5: tester

    @Says(promise = 5, value = "TESTERS 0, 1, .. (at most 8): each at a GARAGE")
    void eightTesters() {
        x.garage(0, 1440);
        x.garage(0, 1440);
        for (int i = 0; i < 8; i++) {
            due(i, x.tester(i % 2), "tester " + i);
        }
        due(FULL, x.tester(0), "tester 8");
        due(8, x.count(2), "count");
        due(1, x.at(7, 0), "at of the last one");
        due(BEYOND, x.at(8, 0), "at of the refused one");
    }

    @Says(promise = 5, value = "A TESTER at a GARAGE: the number. BEYOND. FULL.")
    void aTesterAtNoGarage() {
        due(BEYOND, x.tester(0), "ahead of the first garage");
        x.garage(0, 1440);
        x.garage(0, 1440);
        dueOfEach(BEYOND, new int[] {-1, 2, 6}, "tester", 0, 0);
        dueOfEach(BEYOND, FAR, "tester", 0, 0);
        for (int i = 0; i < 8; i++) {
            due(i, x.tester(i / 7), "tester " + i);
        }
        due(BEYOND, x.tester(2), "beyond comes ahead of full");
        due(BEYOND, x.tester(-1), "beyond comes ahead of full, below");
        due(FULL, x.tester(1), "full alone");
    }

    // ---- promise 6: move

    @Says(promise = 6, value = "(not ahead of its latest MOVE; 30 MOVES of all at most)")
    void aMoveNotAheadOfItsLatest() {
        garages(3);
        due(0, x.move(0, 1, 100), "a first move");
        due(BEYOND, x.move(0, 2, 99), "the day ahead of it");
        due(BEYOND, x.move(0, 2, 0), "day 0");
        due(1, x.at(0, 100), "at behind refused ones");
        due(0, x.move(0, 2, 100), "the same day");
        due(2, x.move(0, 0, 101), "the next day");
        due(BEYOND, x.move(0, 1, 100), "the day ahead of the latest one");
        due(1, x.move(1, 0, 0), "another tester's moves do not count");
    }

    @Says(promise = 6, value = "(not ahead of its latest MOVE; 30 MOVES of all at most)")
    void aRefusedMoveIsNotItsLatest() {
        garages(2);
        due(0, x.move(0, 1, 10), "a move");
        due(BEYOND, x.move(0, 2, 500), "a refused one");
        due(0, x.move(0, 0, 10), "the day of the first one is still good");
    }

    @Says(promise = 6, value = "30 MOVES of all at most")
    void thirtyMovesOfAll() {
        garages(3);
        int[] at = {0, 1, 2};
        for (int i = 0; i < 30; i++) {
            int tester = i % 3;
            int next = (at[tester] + 1) % 3;
            due(at[tester], x.move(tester, next, 1 + i), "move " + i);
            at[tester] = next;
        }
        due(FULL, x.move(0, 0, 9999), "move 30");
        due(FULL, x.move(2, 1, 500), "move 30 of another");
        for (int tester = 0; tester < 3; tester++) {
            due(at[tester], x.at(tester, 9999), "at of tester " + tester);
        }
    }

    @Says(promise = 6, value = "where the TESTER was AT the day ahead (of day 0: AT first).")
    void whereItWasTheDayAhead() {
        garages(4);
        due(3, x.move(3, 1, 0), "on day 0 where it was at first");
        due(3, x.move(3, 2, 0), "on day 0 again, though it moved");
        due(2, x.move(3, 0, 1), "on day 1 where it was on day 0");
        due(2, x.move(3, 1, 1), "on day 1 again");
        due(1, x.move(3, 0, 9999), "on the last day");
        due(1, x.move(3, 2, 9999), "on the last day again");
    }

    @Says(promise = 6, value = "BEYOND: also a day ahead of the latest MOVE. FULL.")
    void aMoveBeyond() {
        garages(2);
        dueOfEach(BEYOND, new int[] {-1, 2, 8}, "move", 0, 0, 0, 0);
        dueOfEach(BEYOND, FAR, "move", 0, 0, 0, 0);
        dueOfEach(BEYOND, new int[] {-1, 2, 6}, "move", 1, 0, 0, 0);
        dueOfEach(BEYOND, FAR, "move", 1, 0, 0, 0);
        dueOfEach(BEYOND, NO_DAYS, "move", 2, 0, 0, 0);
        dueOfEach(BEYOND, FAR, "move", 2, 0, 0, 0);
        due(0, x.move(0, 1, 0), "tester 0 on day 0");
        due(1, x.move(1, 0, 9999), "the last tester on day 9999");
    }

    @Says(promise = 6, value = "BEYOND: also a day ahead of the latest MOVE. FULL.")
    void aMoveBeyondWhenFull() {
        garages(2);
        for (int i = 0; i < 30; i++) {
            due(i == 0 ? 0 : 1, x.move(0, 1, 50 + i), "move " + i);
        }
        due(BEYOND, x.move(0, 0, 78), "a day ahead of the latest one");
        due(BEYOND, x.move(2, 0, 90), "no tester");
        due(BEYOND, x.move(0, 2, 90), "no garage");
        due(BEYOND, x.move(0, 0, 10000), "no day");
        due(FULL, x.move(0, 0, 79), "full alone, on the latest one's day");
        due(FULL, x.move(1, 0, 0), "full alone, of one that never moved");
    }

    // ---- promise 7: at

    @Says(promise = 7, value = "AT a GARAGE on a DAY: by the latest MOVE of that day or ahead.")
    void atByTheLatestMove() {
        garages(4);
        due(0, x.at(0, 0), "day 0 ahead of all moves");
        due(0, x.at(0, 9999), "day 9999 ahead of all moves");
        x.move(0, 1, 10);
        x.move(0, 2, 10);
        x.move(0, 3, 12);
        int[] want = {0, 2, 2, 3, 3};
        for (int i = 0; i < want.length; i++) {
            due(want[i], x.at(0, 9 + i), "day " + (9 + i));
        }
        due(3, x.at(0, 9999), "day 9999");
        due(0, x.at(0, 0), "day 0");
        x.move(1, 2, 0);
        due(2, x.at(1, 0), "day 0 of a move on day 0");
        x.move(2, 0, 9999);
        due(2, x.at(2, 9998), "the day ahead of a move on the last day");
        due(0, x.at(2, 9999), "a move on the last day");
    }

    @Says(promise = 7, value = "AT which GARAGE a TESTER is. BEYOND.")
    void atBeyond() {
        asksOfATesterOnADay("at", 1);
    }

    // ---- promise 8: test

    @Says(promise = 8, value = "TESTS 0, 1, .. (at most 80)")
    void eightyTests() {
        garages(1);
        vehicles(1);
        for (int i = 0; i < 80; i++) {
            due(i, trial().day(i).miles(i).on(x), "test " + i);
        }
        due(FULL, trial().day(80).on(x), "test 80");
        due(FULL, trial().day(9999).on(x), "test 80 again");
        due(80, x.count(3), "count");
        due(79, x.of(79, 5), "miles of the last one");
        due(BEYOND, x.of(80, 0), "of the refused one");
    }

    @Says(promise = 8, value = "on a DAY (not ahead of the latest test's, nor of when the VEHICLE was BUILT; 0 .. 9999)")
    void notAheadOfTheLatestTest() {
        garages(2);
        vehicles(1, 1);
        due(0, trial().day(10).on(x), "a first test");
        due(BEYOND, trial().day(9).on(x), "the day ahead");
        due(BEYOND, trial().vehicle(1).tester(1).day(9).on(x), "the day ahead, another vehicle and tester");
        due(BEYOND, trial().vehicle(1).day(0).on(x), "day 0");
        due(1, trial().vehicle(1).day(10).on(x), "the same day, at an equal minute");
        due(2, trial().day(11).minute(600).on(x), "the next day");
        due(BEYOND, trial().vehicle(1).day(10).on(x), "the day ahead of the latest one");
        due(3, trial().day(11).minute(5).on(x), "the same day, at an earlier minute");
    }

    @Says(promise = 8, value = "on a DAY (not ahead of the latest test's, nor of when the VEHICLE was BUILT; 0 .. 9999)")
    void aRefusedTestIsNotTheLatest() {
        garages(1);
        vehicles(1);
        due(0, trial().day(10).on(x), "a first test");
        due(BEYOND, trial().day(500).minutes(241).on(x), "a refused one");
        due(1, trial().day(10).on(x), "the day of the first one is still good");
    }

    @Says(promise = 8, value = "nor of when the VEHICLE was BUILT")
    void notAheadOfWhenItWasBuilt() {
        garages(1);
        x.vehicle(1, 0, 100);
        x.vehicle(1, 0, 9999);
        x.vehicle(1, 0, 0);
        due(BEYOND, trial().day(99).on(x), "the day ahead");
        due(BEYOND, trial().day(0).on(x), "day 0");
        due(0, trial().vehicle(2).day(99).on(x), "another vehicle on that day");
        due(1, trial().day(100).on(x), "the day it was built");
        due(BEYOND, trial().vehicle(1).day(9998).on(x), "the day ahead of the last one");
        due(2, trial().vehicle(1).day(9999).on(x), "built and tested on the last day");
    }

    @Says(promise = 8, value = "0 .. 9999) from a minute on")
    void testsFromTheFirstDayToTheLast() {
        garages(1);
        vehicles(1);
        due(BEYOND, x.test(0, -1, 30256, 0, 0), "when -1");
        due(0, x.test(0, 0, 30256, 0, 0), "day 0");
        due(1, x.test(0, 9999, 30256, 0, 0), "day 9999");
        due(BEYOND, x.test(0, 10000, 30256, 0, 0), "10000 is minute 1 of day 0, ahead of the latest one");
        due(9999, x.of(1, 2), "the day");
        due(0, x.of(1, 3), "the minute");
    }

    @Says(promise = 8, value = "for so many minutes (1 .. 240; up to 1440 at most)")
    void minutesOfATest() {
        garages(1);
        vehicles(1);
        due(BEYOND, trial().minutes(0).on(x), "0 minutes");
        due(BEYOND, trial().minutes(241).on(x), "241 minutes");
        due(0, trial().minutes(1).on(x), "1 minute");
        due(1, trial().minutes(240).on(x), "240 minutes");
        due(240, x.of(1, 4), "of 240 minutes");
    }

    @Says(promise = 8, value = "up to 1440 at most")
    void upToTheEndOfTheDay() {
        garages(1);
        vehicles(1);
        due(0, trial().minute(1439).minutes(1).on(x), "the last minute");
        due(BEYOND, trial().minute(1439).minutes(2).on(x), "a minute more");
        due(BEYOND, trial().minute(1440).minutes(1).on(x), "minute 1440");
        due(1, trial().minute(1200).minutes(240).on(x), "240 minutes up to the end");
        due(BEYOND, trial().minute(1201).minutes(240).on(x), "240 minutes, one of them too late");
        due(1439, x.of(0, 3), "of the last minute");
    }

    @Says(promise = 8, value = "MILES (0 .. 999999; of a TRAILER 0)")
    void milesOfATest() {
        garages(1);
        vehicles(1);
        due(BEYOND, trial().miles(-1).on(x), "-1 miles");
        due(BEYOND, trial().miles(1000000).on(x), "1000000 miles");
        dueOfEach(BEYOND, FAR, "test", 3, 0, 0, 30256, 0, 0);
        due(0, trial().miles(0).on(x), "0 miles");
        due(1, trial().miles(999999).on(x), "999999 miles");
        due(999999, x.of(1, 5), "of 999999 miles");
    }

    @Says(promise = 8, value = "of a TRAILER 0")
    void milesOfATrailer() {
        garages(1);
        vehicles(3, 0, 2);
        due(BEYOND, trial().miles(1).on(x), "1 mile");
        due(BEYOND, trial().miles(-1).on(x), "-1 miles");
        due(BEYOND, trial().miles(999999).on(x), "999999 miles");
        due(0, trial().miles(0).on(x), "0 miles");
        due(1, trial().vehicle(1).miles(1).on(x), "1 mile of a vehicle of no other kind");
        due(2, trial().vehicle(2).miles(1).on(x), "1 mile of a taxi");
    }

    @Says(promise = 8, value = "BRAKES left and right (0 .. 999 each)")
    void brakesOfATest() {
        garages(1);
        vehicles(1);
        due(BEYOND, x.test(0, 0, 30256, 0, -1), "brakes -1");
        due(BEYOND, x.test(0, 0, 30256, 0, 1000000), "a left one of 1000");
        dueOfEach(BEYOND, FAR, "test", 4, 0, 0, 30256, 0, 0);
        due(0, x.test(0, 0, 30256, 0, 0), "both 0");
        due(1, x.test(0, 0, 30256, 0, 999), "the right one 999");
        due(2, x.test(0, 0, 30256, 0, 999000), "the left one 999");
        due(3, x.test(0, 0, 30256, 0, 999999), "both 999");
        int[][] want = {{0, 0}, {0, 999}, {999, 0}, {999, 999}};
        for (int i = 0; i < 4; i++) {
            due(want[i][0], x.of(i, 6), "the left one of " + i);
            due(want[i][1], x.of(i, 7), "the right one of " + i);
        }
    }

    @Says(promise = 8, value = "FAULTS (bits 0 .. 7), PASSED or not.")
    void faultsAndPassedOfATest() {
        garages(1);
        vehicles(1);
        due(0, x.test(0, 0, 30000, 0, 0), "no faults, not passed");
        due(1, x.test(0, 0, 30255, 0, 0), "all faults, not passed");
        due(2, x.test(0, 0, 30256, 0, 0), "no faults, passed");
        due(3, x.test(0, 0, 30511, 0, 0), "all faults, passed");
        due(BEYOND, x.test(0, 0, 30512, 0, 0), "512");
        due(BEYOND, x.test(0, 0, 30768, 0, 0), "768");
        due(BEYOND, x.test(0, 0, 30999, 0, 0), "999");
        int[][] want = {{0, 0}, {255, 0}, {0, 1}, {255, 1}};
        for (int i = 0; i < 4; i++) {
            due(want[i][0], x.of(i, 8), "faults of " + i);
            due(want[i][1], x.of(i, 9), "passed of " + i);
        }
    }

    @Says(promise = 8, value = "who: 100 times the VEHICLE, and the TESTER")
    void whoOfATest() {
        garages(2);
        vehicles(1, 1);
        for (int who : new int[] {-1, 2, 99, 102, 199, 200, 201, 300, 2400, -100, -99}) {
            due(BEYOND, x.test(who, 0, 30256, 0, 0), "who " + who);
        }
        dueOfEach(BEYOND, FAR, "test", 0, 0, 0, 30256, 0, 0);
        due(0, x.test(0, 0, 30256, 0, 0), "who 0");
        due(1, x.test(1, 0, 30256, 0, 0), "who 1");
        due(2, x.test(100, 0, 30256, 0, 0), "who 100");
        due(3, x.test(101, 0, 30256, 0, 0), "who 101");
    }

    @Says(promise = 8, value = "who: 100 times the VEHICLE, and the TESTER")
    void theLastVehicleAndTester() {
        garages(6);
        x.tester(0);
        x.tester(0);
        for (int i = 0; i < 24; i++) {
            x.vehicle(1, 0, 0);
        }
        due(BEYOND, x.test(2308, 0, 30256, 0, 0), "tester 8");
        due(BEYOND, x.test(2400, 0, 30256, 0, 0), "vehicle 24");
        due(0, x.test(2307, 0, 30256, 0, 0), "vehicle 23 and tester 7");
        due(23, x.of(0, 0), "its vehicle");
        due(7, x.of(0, 1), "its tester");
    }

    @Says(promise = 8, value = "when: 10000 times the minute, and the DAY")
    void whenOfATest() {
        garages(1);
        vehicles(1);
        for (int when : new int[] {-1, -10000, -9999, 14400000, 14409999}) {
            due(BEYOND, x.test(0, when, 1256, 0, 0), "when " + when);
        }
        dueOfEach(BEYOND, new int[] {LEAST, LEAST + 1, -1000001, 1 << 30, GREATEST}, "test", 1, 0, 0, 1256, 0, 0);
        due(0, x.test(0, 14390000, 1256, 0, 0), "the last minute of day 0");
        due(1, x.test(0, 14399999, 1256, 0, 0), "the last minute of the last day");
        due(1439, x.of(1, 3), "the minute");
        due(9999, x.of(1, 2), "the day");
    }

    @Says(promise = 8, value = "how: 1000 times the minutes, and 256 if it PASSED (else 0), and the FAULTS")
    void howOfATest() {
        garages(1);
        vehicles(1);
        for (int how : new int[] {-1, 0, 256, 999, 1512, 1999, 240512, 241000, -1000, -1744}) {
            due(BEYOND, x.test(0, 0, how, 0, 0), "how " + how);
        }
        dueOfEach(BEYOND, FAR, "test", 2, 0, 0, 0, 0, 0);
        due(0, x.test(0, 0, 1000, 0, 0), "how 1000");
        due(1, x.test(0, 0, 1511, 0, 0), "how 1511");
        due(2, x.test(0, 0, 240000, 0, 0), "how 240000");
        due(3, x.test(0, 0, 240511, 0, 0), "how 240511");
    }

    @Says(promise = 8, value = "brakes: 1000 times the left one, and the right one.")
    void brakesAreTakenApart() {
        garages(1);
        vehicles(1);
        due(0, x.test(0, 0, 30256, 0, 1000), "brakes 1000");
        due(1, x.of(0, 6), "the left one");
        due(0, x.of(0, 7), "the right one");
        due(1, x.test(0, 0, 30256, 0, 998999), "brakes 998999");
        due(998, x.of(1, 6), "the left one");
        due(999, x.of(1, 7), "the right one");
    }

    @Says(promise = 8, value = "BEYOND: one of these isn't as told. FULL.")
    void aTestBeyondWhenFull() {
        garages(1);
        vehicles(1, 3);
        for (int i = 0; i < 80; i++) {
            due(i, trial().day(50).on(x), "test " + i);
        }
        due(BEYOND, trial().vehicle(2).day(50).on(x), "no vehicle");
        due(BEYOND, trial().tester(1).day(50).on(x), "no tester");
        due(BEYOND, trial().day(49).on(x), "ahead of the latest one");
        due(BEYOND, trial().day(50).minute(1440).on(x), "no minute");
        due(BEYOND, trial().day(50).minutes(0).on(x), "no minutes");
        due(BEYOND, trial().day(50).miles(1000000).on(x), "too many miles");
        due(BEYOND, trial().vehicle(1).day(50).miles(1).on(x), "miles of a trailer");
        due(BEYOND, x.test(0, 50, 30256, 0, 1000000), "too great a brake");
        due(BEYOND, x.test(LEAST, LEAST, LEAST, LEAST, LEAST), "all too small");
        due(BEYOND, x.test(GREATEST, GREATEST, GREATEST, GREATEST, GREATEST), "all too large");
        due(FULL, trial().day(50).on(x), "full alone");
    }

    // ---- promise 9: of

    @Says(promise = 9, value = "0 VEHICLE, 1 TESTER, 2 DAY, 3 minute, 4 minutes, 5 MILES, 6, 7 BRAKES, 8 FAULTS, 9 PASSED (1, 0), 10 its GARAGE.")
    void allOfATest() {
        garages(3);
        vehicles(1, 1, 1, 1);
        trial().vehicle(3).tester(2).day(9999).minute(1200).minutes(240).faults(255).miles(999999).brakes(999, 998).on(x);
        int[] want = {3, 2, 9999, 1200, 240, 999999, 999, 998, 255, 1, 2};
        for (int what = 0; what <= 10; what++) {
            due(want[what], x.of(0, what), "what " + what);
        }
        fresh();
        garages(1);
        vehicles(1);
        trial().minutes(1).failed().brakes(0, 0).on(x);
        for (int what = 0; what <= 10; what++) {
            due(what == 4 ? 1 : 0, x.of(0, what), "what " + what + " of the least test");
        }
    }

    @Says(promise = 9, value = "10 its GARAGE. BEYOND.")
    void itsGarageIsWhereTheTesterWasOnItsDay() {
        garages(3);
        vehicles(1);
        trial().day(10).on(x);
        trial().day(11).on(x);
        due(0, x.move(0, 1, 11), "a move told behind the tests");
        due(0, x.of(0, 10), "the day ahead of the move");
        due(1, x.of(1, 10), "the day of the move");
        due(0, x.move(0, 2, 11), "a second one of that day");
        due(2, x.of(1, 10), "the last one of the day tells");
    }

    @Says(promise = 9, value = "10 its GARAGE. BEYOND.")
    void ofBeyond() {
        garages(1);
        vehicles(1);
        due(BEYOND, x.of(0, 0), "ahead of the first test");
        trial().on(x);
        trial().on(x);
        dueOfEach(BEYOND, new int[] {-1, 2, 80}, "of", 0, 0, 0);
        dueOfEach(BEYOND, FAR, "of", 0, 0, 0);
        dueOfEach(BEYOND, new int[] {-1, 11}, "of", 1, 0, 0);
        dueOfEach(BEYOND, FAR, "of", 1, 0, 0);
        due(0, x.of(1, 10), "the last test and what");
    }

    public static void main(String[] args) throws ReflectiveOperationException {
        runAll(WhoAndWhereEdgesTest.class);
    }
}
