/** The edges of secret cars, the plan, draws and leaning vehicles: promises 25 to 31. */
public final class SecretEdgesTest extends Edges {

    private void start(int garages) {
        fresh();
        garages(garages);
        vehicles(1, 3);
    }

    /** Makes the risk of a tester's garage so much greater, by quick tests. */
    private void risk(int tester, int more) {
        for (int i = 0; i < more; i++) {
            trial().tester(tester).day(x.count(3)).minutes(1).on(x);
        }
    }

    private void visited(int secret, int tester) {
        x.visit(secret, trial().tester(tester).day(x.count(3)).on(x));
    }

    // ---- promise 25: secret

    @Says(promise = 25, value = "SECRET cars 0, 1, .. (at most 6)")
    void sixSecretCars() {
        for (int i = 0; i < 6; i++) {
            due(i, x.secret(1 << i), "secret car " + i);
        }
        due(FULL, x.secret(1), "secret car 6");
        due(FULL, x.secret(255), "secret car 6 again");
        due(6, x.count(5), "count");
        due(BEYOND, x.plan(6), "the plan of the refused one");
    }

    @Says(promise = 25, value = "BEYOND: faults isn't 1 .. 255. FULL.")
    void knownFaultsGoFrom1To255() {
        dueOfEach(BEYOND, new int[] {0, -1, 256, 257}, "secret", 0, 0);
        dueOfEach(BEYOND, FAR, "secret", 0, 0);
        due(0, x.secret(1), "faults 1");
        due(1, x.secret(255), "faults 255");
        for (int i = 2; i < 6; i++) {
            due(i, x.secret(1), "secret car " + i);
        }
        due(BEYOND, x.secret(0), "beyond comes ahead of full");
        due(BEYOND, x.secret(256), "beyond comes ahead of full, above");
        due(FULL, x.secret(1), "full alone");
    }

    // ---- promise 26: visit

    @Says(promise = 26, value = "MISSED in it are FAULTS that are known, aren't among the TEST's, and fail a CAR by the TEXT in force on its DAY.")
    void missedFaults() {
        start(1);
        text(10, "f0v;f1c;f2t;f3r;f4v;f7c;");
        x.secret(255);
        x.secret(0b10000001);
        int all = trial().day(10).on(x);
        int seen = trial().day(10).faults(0b00010001).on(x);
        int trailer = trial().vehicle(1).day(10).on(x);
        int few = trial().day(10).on(x);
        int none = trial().day(10).faults(255).on(x);
        due(0b10010011, x.visit(0, all), "all that fail a car");
        due(0b10000010, x.visit(0, seen), "without those that were seen");
        due(0b10010011, x.visit(0, trailer), "those that fail a car, in a trailer's test too");
        due(0b10000001, x.visit(1, few), "those that are known alone");
        due(0, x.visit(0, none), "none, if all were seen");
    }

    @Says(promise = 26, value = "and fail a CAR by the TEXT in force on its DAY.")
    void missedByTheTextOfItsDay() {
        start(1);
        x.secret(255);
        int early = trial().day(9).on(x);
        int late = trial().day(10).on(x);
        due(0, x.visit(0, early), "no text at all");
        text(10, "f0v;");
        due(1, x.visit(0, late), "the day of the text");
        due(0, x.points(early), "the day ahead of the text");
        due(10, x.points(late), "points of the day of the text");
    }

    @Says(promise = 26, value = "A TEST is of one VISIT at most, a SECRET car may be sent often.")
    void oneVisitOfATest() {
        start(1);
        x.secret(1);
        x.secret(2);
        for (int i = 0; i < 80; i++) {
            trial().on(x);
            due(0, x.visit(0, i), "visit " + i);
        }
        due(80, x.count(6), "visits");
        due(STATE, x.visit(0, 0), "the first again");
        due(STATE, x.visit(1, 79), "the last by another car");
        due(80, x.count(6), "visits behind refused ones");
    }

    @Says(promise = 26, value = "BEYOND: there is no such SECRET car, TEST. STATE: the TEST is of a VISIT.")
    void visitBeyondAndState() {
        start(1);
        trial().on(x);
        due(BEYOND, x.visit(0, 0), "ahead of the first secret car");
        x.secret(1);
        due(BEYOND, x.visit(0, 1), "ahead of the second test");
        trial().on(x);
        x.secret(1);
        due(0, x.visit(1, 1), "the last car to the last test");
        for (int place = 0; place < 2; place++) {
            dueOfEach(BEYOND, new int[] {-1, 2}, "visit", place, 1, 1);
            dueOfEach(BEYOND, FAR, "visit", place, 1, 1);
        }
        due(STATE, x.visit(1, 1), "state alone");
        due(0, x.visit(0, 0), "the other is free still");
    }

    // ---- promise 27: worth

    @Says(promise = 27, value = "WORTH of a SECRET car at a GARAGE: RISK times how many of its known FAULTS were in no SECRET car that was sent there.")
    void worthOfFaultsThatWereNotSent() {
        start(2);
        x.secret(255);
        x.secret(0b00001111);
        x.secret(0b10000000);
        due(8, x.worth(0, 0), "a garage without tests");
        visited(1, 0);
        due(4, x.worth(0, 0), "four of them were sent");
        due(0, x.worth(1, 0), "all of them were sent");
        due(1, x.worth(2, 0), "none of them was sent");
        due(8, x.worth(0, 1), "the other garage");
        visited(2, 0);
        due(3, x.worth(0, 0), "five were sent by two cars");
        visited(1, 0);
        due(3, x.worth(0, 0), "one car sent twice");
        risk(0, 3);
        due(12, x.worth(0, 0), "times the risk");
        due(0, x.worth(1, 0), "times the risk of nothing");
    }

    @Says(promise = 27, value = "WORTH of a SECRET car at a GARAGE: RISK times how many of its known FAULTS were in no SECRET car that was sent there.")
    void theMostWorth() {
        start(1);
        x.secret(255);
        for (int i = 0; i < 80; i++) {
            trial().minutes(1).on(x);
        }
        due(161, x.rate(0, 6), "quick and overlapping");
        due(8 * 161, x.worth(0, 0), "worth");
        due(8 * 161, x.plan(-1), "all worth");
    }

    @Says(promise = 27, value = "WORTH. BEYOND.")
    void worthBeyond() {
        due(BEYOND, x.worth(0, 0), "ahead of all");
        start(2);
        due(BEYOND, x.worth(0, 0), "ahead of the first secret car");
        x.secret(1);
        x.secret(3);
        for (int place = 0; place < 2; place++) {
            dueOfEach(BEYOND, new int[] {-1, 2, 6}, "worth", place, 1, 1);
            dueOfEach(BEYOND, FAR, "worth", place, 1, 1);
        }
        due(2, x.worth(1, 1), "the last ones");
        fresh();
        x.secret(1);
        due(BEYOND, x.worth(0, 0), "ahead of the first garage");
    }

    // ---- promise 28: plan

    private void plans(int... want) {
        for (int secret = -1; secret < want.length - 1; secret++) {
            due(want[secret + 1], x.plan(secret), "plan " + secret);
        }
    }

    @Says(promise = 28, value = "each SECRET car goes to one GARAGE or none, to each GARAGE one at most: the most WORTH together")
    void theMostTogether() {
        start(2);
        risk(0, 2);
        x.secret(0b11);
        x.secret(0b111);
        // 3 times 3 and 1 times 2 are more than 3 times 2 and 1 times 3.
        plans(11, 1, 0);
        visited(1, 0);
        // All that is known was sent to garage 0 now.
        plans(3, 0, 1);
    }

    @Says(promise = 28, value = "each SECRET car goes to one GARAGE or none, to each GARAGE one at most: the most WORTH together")
    void moreCarsThanGarages() {
        start(1);
        for (int i = 0; i < 6; i++) {
            x.secret(i == 4 ? 3 : 1);
        }
        plans(2, NONE, NONE, NONE, NONE, 0, NONE);
    }

    @Says(promise = 28, value = "each SECRET car goes to one GARAGE or none, to each GARAGE one at most: the most WORTH together")
    void moreGaragesThanCars() {
        start(6);
        risk(5, 1);
        x.secret(1);
        plans(2, 5);
        x.secret(1);
        plans(3, 0, 5);
    }

    @Says(promise = 28, value = "each SECRET car goes to one GARAGE or none, to each GARAGE one at most: the most WORTH together")
    void sixCarsToSixGarages() {
        start(6);
        for (int garage = 0; garage < 6; garage++) {
            risk(garage, garage);
        }
        for (int faults : new int[] {0b111111, 0b11111, 0b1111, 0b111, 0b11, 0b1}) {
            x.secret(faults);
        }
        plans(36 + 25 + 16 + 9 + 4 + 1, 5, 4, 3, 2, 1, 0);
    }

    @Says(promise = 28, value = "of several that in which car 0 goes to the least GARAGE (none behind all), then car 1, and so on.")
    void ofSeveralTheLeastGarage() {
        start(3);
        for (int i = 0; i < 3; i++) {
            x.secret(1);
        }
        plans(3, 0, 1, 2);
        risk(2, 1);
        // Any one of them brings 2 at garage 2: car 0 goes to 0, car 1 to 1.
        plans(4, 0, 1, 2);
        x.secret(1);
        plans(4, 0, 1, 2, NONE);
    }

    @Says(promise = 28, value = "of several that in which car 0 goes to the least GARAGE (none behind all), then car 1, and so on.")
    void aGarageOfNoWorthComesAheadOfNone() {
        start(2);
        x.secret(1);
        x.secret(1);
        visited(0, 0);
        visited(0, 1);
        plans(0, 0, 1);
        x.secret(2);
        // Car 2 alone is worth anything: car 0 takes garage 0, and car 1 is left with none.
        plans(1, 0, NONE, 1);
    }

    @Says(promise = 28, value = "secret -1: all WORTH. BEYOND. NONE: it goes to none.")
    void planBeyondAndNone() {
        due(0, x.plan(-1), "nothing is told");
        due(BEYOND, x.plan(0), "ahead of the first secret car");
        x.secret(255);
        due(0, x.plan(-1), "no garage");
        due(NONE, x.plan(0), "no garage to go to");
        dueOfEach(BEYOND, new int[] {-2, 1, 6}, "plan", 0, 0);
        dueOfEach(BEYOND, FAR, "plan", 0, 0);
        x.garage(0, 1440);
        due(8, x.plan(-1), "a garage");
        due(0, x.plan(0), "a garage to go to");
        for (int i = 1; i < 6; i++) {
            x.secret(255);
            due(NONE, x.plan(i), "no garage is left for car " + i);
        }
        due(BEYOND, x.plan(6), "secret car 6");
    }

    // ---- promise 29: draw

    @Says(promise = 29, value = "by a CHANCE (1 .. 100 hundredths)")
    void chancesGoFrom1To100() {
        start(1);
        trial().on(x);
        trial().on(x);
        dueOfEach(BEYOND, new int[] {0, -1, 101}, "draw", 1, 0, 1, 0);
        dueOfEach(BEYOND, FAR, "draw", 1, 0, 1, 0);
        due(1, x.draw(0, 1, 0), "chance 1");
        due(2, x.draw(1, 100, 0), "chance 100");
    }

    @Says(promise = 29, value = "BEYOND: there is no such TEST, chance, or wrong (0, 1). STATE: it was.")
    void drawBeyondAndState() {
        start(1);
        due(BEYOND, x.draw(0, 1, 0), "ahead of the first test");
        trial().on(x);
        trial().on(x);
        dueOfEach(BEYOND, new int[] {-1, 2, 80}, "draw", 0, 0, 1, 0);
        dueOfEach(BEYOND, FAR, "draw", 0, 0, 1, 0);
        dueOfEach(BEYOND, new int[] {-1, 2}, "draw", 2, 0, 1, 0);
        dueOfEach(BEYOND, FAR, "draw", 2, 0, 1, 0);
        due(0, x.count(7), "none is drawn");
        due(1, x.draw(0, 50, 1), "drawn");
        due(STATE, x.draw(0, 50, 1), "drawn again");
        due(STATE, x.draw(0, 1, 0), "drawn again, otherwise");
        due(BEYOND, x.draw(0, 0, 0), "beyond comes ahead of state: chance");
        due(BEYOND, x.draw(0, 1, 2), "beyond comes ahead of state: wrong");
        due(1000, x.error(), "the first draw holds");
        due(2, x.draw(1, 50, 0), "the other");
        due(500, x.error(), "both hold");
    }

    @Says(promise = 29, value = "A TEST is DRAWN: how many are.")
    void allTestsAreDrawn() {
        start(1);
        for (int i = 0; i < 80; i++) {
            trial().on(x);
        }
        for (int i = 79; i >= 0; i--) {
            due(80 - i, x.draw(i, 1, 0), "draw " + i);
        }
        due(80, x.count(7), "count");
    }

    // ---- promise 30: error

    @Says(promise = 30, value = "ERROR. NONE: none is DRAWN.")
    void errorOfNone() {
        due(NONE, x.error(), "nothing is told");
        start(1);
        trial().on(x);
        due(NONE, x.error(), "none is drawn");
        due(BEYOND, x.draw(0, 101, 1), "a refused draw");
        due(NONE, x.error(), "none is drawn still");
        x.draw(0, 100, 0);
        due(0, x.error(), "an error of 0 is not none");
    }

    private void error(int want, int... chanceAndWrong) {
        start(1);
        for (int i = 0; i < chanceAndWrong.length; i += 2) {
            x.draw(trial().on(x), chanceAndWrong[i], chanceAndWrong[i + 1]);
        }
        due(want, x.error(), java.util.Arrays.toString(chanceAndWrong));
    }

    @Says(promise = 30, value = "ERROR: of DRAWN ones that were wrong 10000 by CHANCE, together, times 1000, by that of all DRAWN ones.")
    void quotientsOfErrorAreCut() {
        error(1000, 1, 1);
        error(0, 1, 0);
        error(1000, 100, 1);
        error(500, 1, 1, 1, 0);
        error(990, 1, 1, 100, 0);
        error(9, 100, 1, 1, 0);
        // 10000 by 99 is 101, by 51 it is 196, by 3 it is 3333.
        error(340, 99, 1, 51, 0);
        error(659, 99, 0, 51, 1);
        error(29, 99, 1, 3, 0);
        // 10000 by 73 is 136, and by 100 it is 100.
        error(576, 73, 1, 100, 0);
        error(666, 7, 1, 7, 1, 7, 0);
    }

    @Says(promise = 30, value = "ERROR: of DRAWN ones that were wrong 10000 by CHANCE, together, times 1000, by that of all DRAWN ones.")
    void theGreatestWeights() {
        start(1);
        for (int i = 0; i < 80; i++) {
            x.draw(trial().on(x), 1, i == 0 ? 0 : 1);
        }
        due(987, x.error(), "79 of 80");
    }

    // ---- promise 31: leans

    @Says(promise = 31, value = "DUE behind it isn't over on that DAY (DAY of the TEST and DUE is that DAY or later).")
    void dueIsNotOver() {
        garages(1);
        vehicles(0, 1, 2, 3);
        text(0, "f0v;");
        int[] days = {365, 365, 182, 730};
        for (int kind = 0; kind < 4; kind++) {
            trial().vehicle(kind).day(100).faults(1).on(x);
            due(0, x.leans(kind, 99), "the day ahead, kind " + kind);
            due(1, x.leans(kind, 100), "the day of the test, kind " + kind);
            due(1, x.leans(kind, 100 + days[kind]), "the last day, kind " + kind);
            due(0, x.leans(kind, 101 + days[kind]), "the day behind it, kind " + kind);
            due(0, x.leans(kind, 9999), "day 9999, kind " + kind);
        }
    }

    @Says(promise = 31, value = "DUE behind it isn't over on that DAY (DAY of the TEST and DUE is that DAY or later).")
    void leansOnTheFirstAndTheLastDay() {
        start(1);
        text(0, "f0v;");
        trial().faults(1).on(x);
        due(1, x.leans(0, 0), "day 0");
        due(1, x.leans(0, 365), "day 365");
        due(0, x.leans(0, 366), "day 366");
        trial().day(9999).faults(1).on(x);
        due(0, x.leans(0, 9998), "day 9998");
        due(1, x.leans(0, 9999), "day 9999");
    }

    @Says(promise = 31, value = "LEANS: a VEHICLE leans on a DAY if its latest TEST up to that DAY PASSED, UNLIKE is 1")
    void theLatestTestUpToThatDay() {
        start(1);
        text(0, "f0v;");
        trial().day(10).faults(1).on(x);
        trial().day(20).on(x);
        trial().day(30).faults(1).on(x);
        trial().day(40).failed().faults(1).on(x);
        trial().day(50).faults(1).on(x);
        trial().day(50).failed().on(x);
        int[][] want = {{9, 0}, {10, 1}, {19, 1}, {20, 0}, {29, 0}, {30, 1}, {39, 1}, {40, 0}, {49, 0}, {50, 0}};
        for (int[] w : want) {
            due(w[1], x.leans(0, w[0]), "day " + w[0]);
        }
        trial().day(50).faults(1).on(x);
        due(1, x.leans(0, 50), "of one day the last one");
        trial().vehicle(1).day(60).on(x);
        due(1, x.leans(0, 60), "another vehicle's test does not matter");
    }

    @Says(promise = 31, value = "How many VEHICLES lean on a DAY (vehicle -1), or 1 if one does, else 0. BEYOND.")
    void howManyLean() {
        due(0, x.leans(-1, 0), "no vehicles");
        garages(1);
        text(0, "f0v;");
        for (int i = 0; i < 24; i++) {
            x.vehicle(i % 4, 0, 0);
            due(i, x.leans(-1, 9999), "all ahead of test " + i);
            trial().vehicle(i).day(9999).faults(1).on(x);
        }
        due(24, x.leans(-1, 9999), "all 24");
        due(1, x.leans(0, 9999), "the first one");
        due(0, x.leans(-1, 9998), "none the day ahead");
        due(1, x.leans(23, 9999), "the last one");
    }

    @Says(promise = 31, value = "How many VEHICLES lean on a DAY (vehicle -1), or 1 if one does, else 0. BEYOND.")
    void leansBeyond() {
        due(BEYOND, x.leans(0, 0), "ahead of the first vehicle");
        vehicles(1, 1);
        dueOfEach(BEYOND, new int[] {-2, 2, 24}, "leans", 0, 0, 0);
        dueOfEach(BEYOND, FAR, "leans", 0, 0, 0);
        dueOfEach(BEYOND, NO_DAYS, "leans", 1, 0, 0);
        dueOfEach(BEYOND, FAR, "leans", 1, -1, 0);
        due(0, x.leans(0, 0), "the first vehicle on the first day, without tests");
        due(0, x.leans(1, 9999), "the last vehicle on the last day, without tests");
        due(0, x.leans(-1, 9999), "all on the last day");
    }

    public static void main(String[] args) throws ReflectiveOperationException {
        runAll(SecretEdgesTest.class);
    }
}
