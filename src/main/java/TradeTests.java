/** Cars tested by the trade, and what their tests tell of the garages and testers. */
public final class TradeTests {
    private static final int LOW = -1000000;
    private static final int BEYOND = 1;
    private static final int NONE = 2;
    private static final int STATE = 3;
    private static final int FULL = 4;
    private static final int KIND = 5;

    private static final int VEHICLE = 0;
    private static final int CAR = 1;
    private static final int TAXI = 2;
    private static final int TRAILER = 3;
    private static final int KINDS = 4;
    private static final int[] DUE_DAYS = {365, 365, 182, 730};
    private static final int[] FAIR_MINUTES = {20, 20, 30, 10};

    private static final int MAKES = 4;
    private static final int AGES = 4;
    private static final int DAYS = 10000;
    private static final int DAY_MINUTES = 1440;
    private static final int TEST_MINUTES = 240;
    private static final int MILES = 1000000;
    private static final int BRAKE_PAIRS = 1000000;
    private static final int FAULT_SETS = 256;

    private static final int MOST_VEHICLES = 24;
    private static final int MOST_GARAGES = 6;
    private static final int MOST_TESTERS = 8;
    private static final int MOST_MOVES = 30;
    private static final int MOST_TESTS = 80;
    private static final int MOST_BYTES = 60;
    private static final int MOST_TEXTS = 6;
    private static final int MOST_SECRETS = 6;
    private static final int MOST_TOLD = 8;

    private static final int UNLIKE_PASS = 1;
    private static final int UNLIKE_FAIL = 2;

    private final Vehicles vehicles;
    private final Trade trade;
    private final Tests tests;
    private final Texts texts;
    private final Judge judge;
    private final Signals signals;
    private final Rates rates;
    private final Odometer odometer;
    private final Secrets secrets;
    private final Penalties penalties;
    private final Plan plan;
    private final int[] told;
    private int toldCount;
    private final int[] findings;

    public TradeTests() {
        vehicles = new Vehicles();
        trade = new Trade();
        tests = new Tests();
        texts = new Texts();
        judge = new Judge(vehicles, tests, texts);
        signals = new Signals(vehicles, trade, tests, judge);
        rates = new Rates(vehicles, trade, tests);
        odometer = new Odometer(tests);
        secrets = new Secrets(tests, texts);
        penalties = new Penalties(tests, judge, signals, secrets);
        plan = new Plan(trade, tests, signals, secrets);
        told = new int[MOST_TOLD];
        toldCount = 0;
        findings = new int[KIND + 1];
    }

    // ---- who and where

    public int vehicle(int kind, int make, int built) {
        if (!isBelow(kind, KINDS) || !isBelow(make, MAKES) || !isBelow(built, DAYS)) {
            return finding(BEYOND);
        }
        if (vehicles.count >= MOST_VEHICLES) {
            return finding(FULL);
        }
        return vehicles.add(kind, make, built);
    }

    public int as(int vehicle, int kind) {
        if (!isBelow(vehicle, vehicles.count) || !isBelow(kind, KINDS)) {
            return finding(BEYOND);
        }
        if (!isUnder(vehicles.kind[vehicle], kind)) {
            return finding(KIND);
        }
        return vehicles.dueDays(vehicle);
    }

    public int garage(int from, int to) {
        if (!isBelow(from, DAY_MINUTES) || to <= from || to > DAY_MINUTES) {
            return finding(BEYOND);
        }
        if (trade.garages >= MOST_GARAGES) {
            return finding(FULL);
        }
        return trade.addGarage(from, to);
    }

    public int tester(int garage) {
        if (!isBelow(garage, trade.garages)) {
            return finding(BEYOND);
        }
        if (trade.testers >= MOST_TESTERS) {
            return finding(FULL);
        }
        return trade.addTester(garage);
    }

    public int move(int tester, int garage, int day) {
        if (!isBelow(tester, trade.testers) || !isBelow(garage, trade.garages) || !isBelow(day, DAYS)) {
            return finding(BEYOND);
        }
        if (day < trade.lastMoveDay(tester)) {
            return finding(BEYOND);
        }
        if (trade.moves >= MOST_MOVES) {
            return finding(FULL);
        }
        trade.addMove(tester, garage, day);
        return trade.garageOn(tester, day - 1);
    }

    public int at(int tester, int day) {
        if (!isBelow(tester, trade.testers) || !isBelow(day, DAYS)) {
            return finding(BEYOND);
        }
        return trade.garageOn(tester, day);
    }

    public int test(int who, int when, int how, int miles, int brakes) {
        if (!isWho(who) || !isWhen(who, when) || !isHow(when, how)) {
            return finding(BEYOND);
        }
        if (!isMiles(who, miles) || !isBelow(brakes, BRAKE_PAIRS)) {
            return finding(BEYOND);
        }
        if (tests.count >= MOST_TESTS) {
            return finding(FULL);
        }
        return tests.add(who, when, how, miles, brakes);
    }

    public int of(int test, int what) {
        if (!isBelow(test, tests.count) || !isBelow(what, 11)) {
            return finding(BEYOND);
        }
        return what == 10 ? trade.garageOf(tests, test) : tests.detail(test, what);
    }

    // ---- texts

    public int feed(int b) {
        if (!isBelow(b, 256)) {
            return finding(BEYOND);
        }
        if (texts.bytes >= MOST_BYTES) {
            return finding(FULL);
        }
        return texts.addByte(b);
    }

    public int text(int day) {
        if (!isBelow(day, DAYS)) {
            return finding(BEYOND);
        }
        if (texts.count >= MOST_TEXTS) {
            return finding(FULL);
        }
        int fault = texts.takeTape(day);
        return fault < 0 ? texts.count : -10 - fault;
    }

    public int says(int day, int what) {
        boolean isAsked = what == 0 || what == 1 || (what >= 10 && what < 10 + KINDS);
        if (!isBelow(day, DAYS) || !isAsked) {
            return finding(BEYOND);
        }
        int text = texts.inForce(day);
        if (text < 0) {
            return finding(NONE);
        }
        if (what >= 10) {
            return texts.failing(text, what - 10);
        }
        return what == 0 ? texts.leastBrake[text] : texts.brakeGap[text];
    }

    public int verdict(int test) {
        if (!isBelow(test, tests.count)) {
            return finding(BEYOND);
        }
        return judge.passes(test) ? 1 : 0;
    }

    public int unlike(int test) {
        if (!isBelow(test, tests.count)) {
            return finding(BEYOND);
        }
        return judge.unlikeness(test);
    }

    // ---- garages beyond chance, signs

    public int rate(int garage, int what) {
        if (!isBelow(garage, trade.garages) || !isBelow(what, 7)) {
            return finding(BEYOND);
        }
        return what == 6 ? plan.riskOf(garage) : rates.figure(garage, what);
    }

    public int share(int age, int make) {
        if (!isBelow(age, AGES) || !isBelow(make, MAKES)) {
            return finding(BEYOND);
        }
        int share = rates.shareOf(age, make);
        return share < 0 ? finding(NONE) : share;
    }

    public int signs(int test) {
        if (!isBelow(test, tests.count)) {
            return finding(BEYOND);
        }
        return signals.bits(test);
    }

    public int alike(int test) {
        if (!isBelow(test, tests.count)) {
            return finding(BEYOND);
        }
        return signals.alikeTests(test);
    }

    public int falls(int test) {
        if (!isBelow(test, tests.count)) {
            return finding(BEYOND);
        }
        if (vehicles.kind[tests.vehicle[test]] == TRAILER) {
            return finding(KIND);
        }
        return odometer.fall(test);
    }

    // ---- points

    public int rule(int what, int v) {
        if (!penalties.isRule(what, v)) {
            return finding(BEYOND);
        }
        return penalties.setRule(what, v);
    }

    public int appeal(int test, int is) {
        if (!isBelow(test, tests.count) || !isBelow(is, 2)) {
            return finding(BEYOND);
        }
        int was = tests.appealed[test];
        tests.appealed[test] = is;
        return was;
    }

    public int points(int test) {
        if (!isBelow(test, tests.count)) {
            return finding(BEYOND);
        }
        return penalties.ofTest(test);
    }

    public int sum(int tester, int day) {
        if (!isBelow(tester, trade.testers) || !isBelow(day, DAYS)) {
            return finding(BEYOND);
        }
        return penalties.ofTester(tester, day);
    }

    public int banned(int tester, int day) {
        if (!isBelow(tester, trade.testers) || !isBelow(day, DAYS)) {
            return finding(BEYOND);
        }
        return penalties.isBanned(tester, day) ? 1 : 0;
    }

    // ---- secret cars, draws

    public int secret(int faults) {
        if (faults < 1 || faults >= FAULT_SETS) {
            return finding(BEYOND);
        }
        if (secrets.count >= MOST_SECRETS) {
            return finding(FULL);
        }
        return secrets.add(faults);
    }

    public int visit(int secret, int test) {
        if (!isBelow(secret, secrets.count) || !isBelow(test, tests.count)) {
            return finding(BEYOND);
        }
        if (secrets.isVisited(test)) {
            return finding(STATE);
        }
        secrets.send(secret, test);
        return secrets.missed(test);
    }

    public int worth(int secret, int garage) {
        if (!isBelow(secret, secrets.count) || !isBelow(garage, trade.garages)) {
            return finding(BEYOND);
        }
        return plan.worthOf(secret, garage);
    }

    public int plan(int secret) {
        if (secret < -1 || secret >= secrets.count) {
            return finding(BEYOND);
        }
        plan.fillWorths();
        plan.fillBest();
        if (secret == -1) {
            return plan.most();
        }
        int garage = plan.garageFor(secret);
        return garage < 0 ? finding(NONE) : garage;
    }

    public int draw(int test, int chance, int wrong) {
        if (!isBelow(test, tests.count) || chance < 1 || chance > 100 || !isBelow(wrong, 2)) {
            return finding(BEYOND);
        }
        if (tests.isDrawn(test)) {
            return finding(STATE);
        }
        return tests.addDraw(test, chance, wrong);
    }

    public int error() {
        int error = tests.drawnError();
        return error < 0 ? finding(NONE) : error;
    }

    public int leans(int vehicle, int day) {
        if (vehicle < -1 || vehicle >= vehicles.count || !isBelow(day, DAYS)) {
            return finding(BEYOND);
        }
        if (vehicle >= 0) {
            return judge.isLeaning(vehicle, day) ? 1 : 0;
        }
        int leaning = 0;
        for (int i = 0; i < vehicles.count; i++) {
            if (judge.isLeaning(i, day)) {
                leaning++;
            }
        }
        return leaning;
    }

    // ---- what is told

    public int tell(int v) {
        if (toldCount >= MOST_TOLD) {
            return finding(FULL);
        }
        told[toldCount] = v;
        toldCount++;
        return toldCount;
    }

    public int check(int day) {
        int waiting = toldCount;
        toldCount = 0;
        if (!isBelow(day, DAYS)) {
            return finding(BEYOND);
        }
        for (int i = 0; i < waiting; i++) {
            if (i >= trade.testers || told[i] != penalties.ofTester(i, day)) {
                return 1 + i;
            }
        }
        return 0;
    }

    public int count(int what) {
        switch (what) {
            case 0: return vehicles.count;
            case 1: return trade.garages;
            case 2: return trade.testers;
            case 3: return tests.count;
            case 4: return texts.count;
            case 5: return secrets.count;
            case 6: return secrets.visits;
            case 7: return tests.drawn;
            case 8: return texts.bytes;
            case 9: return toldCount;
            case 10: return signals.testsWithSigns();
            default: return finding(BEYOND);
        }
    }

    public int found(int k) {
        if (k < BEYOND || k > KIND) {
            return finding(BEYOND);
        }
        return findings[k];
    }

    // ---- what the calls share

    private int finding(int k) {
        findings[k]++;
        return LOW - k;
    }

    private boolean isWho(int who) {
        return who >= 0 && who / 100 < vehicles.count && who % 100 < trade.testers;
    }

    private boolean isWhen(int who, int when) {
        if (when < 0 || when / DAYS >= DAY_MINUTES) {
            return false;
        }
        int day = when % DAYS;
        return day >= tests.lastDay() && day >= vehicles.built[who / 100];
    }

    private static boolean isHow(int when, int how) {
        if (how < 0 || how % 1000 >= 2 * FAULT_SETS) {
            return false;
        }
        int minutes = how / 1000;
        return minutes >= 1 && minutes <= TEST_MINUTES && when / DAYS + minutes <= DAY_MINUTES;
    }

    private boolean isMiles(int who, int miles) {
        return vehicles.kind[who / 100] == TRAILER ? miles == 0 : isBelow(miles, MILES);
    }

    private static boolean isBelow(int value, int bound) {
        return value >= 0 && value < bound;
    }

    private static boolean isUnder(int kind, int top) {
        return kind == top || top == VEHICLE || (top == CAR && kind == TAXI);
    }

    private static final class Vehicles {
        final int[] kind = new int[MOST_VEHICLES];
        final int[] make = new int[MOST_VEHICLES];
        final int[] built = new int[MOST_VEHICLES];
        int count;

        int add(int newKind, int newMake, int newBuilt) {
            kind[count] = newKind;
            make[count] = newMake;
            built[count] = newBuilt;
            count++;
            return count - 1;
        }

        int dueDays(int vehicle) {
            return DUE_DAYS[kind[vehicle]];
        }

        int ageClass(int vehicle, int day) {
            int years = (day - built[vehicle]) / 365;
            if (years < 3) {
                return 0;
            }
            if (years < 6) {
                return 1;
            }
            return years < 10 ? 2 : 3;
        }
    }

    /** The garages, and the testers who move among them. */
    private static final class Trade {
        final int[] opens = new int[MOST_GARAGES];
        final int[] shuts = new int[MOST_GARAGES];
        int garages;
        private final int[] firstGarage = new int[MOST_TESTERS];
        int testers;
        private final int[] mover = new int[MOST_MOVES];
        private final int[] target = new int[MOST_MOVES];
        private final int[] since = new int[MOST_MOVES];
        int moves;

        int addGarage(int from, int to) {
            opens[garages] = from;
            shuts[garages] = to;
            garages++;
            return garages - 1;
        }

        int addTester(int garage) {
            firstGarage[testers] = garage;
            testers++;
            return testers - 1;
        }

        void addMove(int tester, int garage, int day) {
            mover[moves] = tester;
            target[moves] = garage;
            since[moves] = day;
            moves++;
        }

        int lastMoveDay(int tester) {
            int day = 0;
            for (int i = 0; i < moves; i++) {
                if (mover[i] == tester) {
                    day = since[i];
                }
            }
            return day;
        }

        // A tester's moves never go back in days, so the last one that fits is the latest.
        int garageOn(int tester, int day) {
            int garage = firstGarage[tester];
            for (int i = 0; i < moves; i++) {
                if (mover[i] == tester && since[i] <= day) {
                    garage = target[i];
                }
            }
            return garage;
        }

        int garageOf(Tests tests, int test) {
            return garageOn(tests.tester[test], tests.day[test]);
        }
    }

    /** The tests, and which of them were appealed, drawn, or visited by a secret car. */
    private static final class Tests {
        final int[] vehicle = new int[MOST_TESTS];
        final int[] tester = new int[MOST_TESTS];
        final int[] day = new int[MOST_TESTS];
        final int[] minute = new int[MOST_TESTS];
        final int[] minutes = new int[MOST_TESTS];
        final int[] miles = new int[MOST_TESTS];
        final int[] left = new int[MOST_TESTS];
        final int[] right = new int[MOST_TESTS];
        final int[] faults = new int[MOST_TESTS];
        final int[] passed = new int[MOST_TESTS];
        final int[] appealed = new int[MOST_TESTS];
        /** 1 and the secret car that was sent; 0 if none was. */
        final int[] visitor = new int[MOST_TESTS];
        /** 0 if the test was not drawn. */
        private final int[] chance = new int[MOST_TESTS];
        private final int[] wrong = new int[MOST_TESTS];
        int count;
        int drawn;

        int add(int who, int when, int how, int newMiles, int brakes) {
            vehicle[count] = who / 100;
            tester[count] = who % 100;
            day[count] = when % DAYS;
            minute[count] = when / DAYS;
            minutes[count] = how / 1000;
            miles[count] = newMiles;
            left[count] = brakes / 1000;
            right[count] = brakes % 1000;
            faults[count] = how % 1000 % FAULT_SETS;
            passed[count] = how % 1000 / FAULT_SETS;
            count++;
            return count - 1;
        }

        int lastDay() {
            return count > 0 ? day[count - 1] : 0;
        }

        int detail(int test, int what) {
            switch (what) {
                case 0: return vehicle[test];
                case 1: return tester[test];
                case 2: return day[test];
                case 3: return minute[test];
                case 4: return minutes[test];
                case 5: return miles[test];
                case 6: return left[test];
                case 7: return right[test];
                case 8: return faults[test];
                default: return passed[test];
            }
        }

        boolean isDrawn(int test) {
            return chance[test] > 0;
        }

        int addDraw(int test, int newChance, int newWrong) {
            chance[test] = newChance;
            wrong[test] = newWrong;
            drawn++;
            return drawn;
        }

        /** Thousandths of the drawn tests' weight that were wrong; -1 if none is drawn. */
        int drawnError() {
            int all = 0;
            int bad = 0;
            for (int i = 0; i < count; i++) {
                if (chance[i] > 0) {
                    int weight = 10000 / chance[i];
                    all += weight;
                    bad += wrong[i] * weight;
                }
            }
            return all > 0 ? bad * 1000 / all : -1;
        }
    }

    /** The tape, and the texts that were read from it. */
    private static final class Texts {
        private static final int END = -1;

        private final int[] tape = new int[MOST_BYTES];
        int bytes;
        private int place;
        private final int[] since = new int[MOST_TEXTS];
        final int[] leastBrake = new int[MOST_TEXTS];
        final int[] brakeGap = new int[MOST_TEXTS];
        private final int[] fails = new int[MOST_TEXTS * KINDS];
        int count;

        int addByte(int b) {
            tape[bytes] = b;
            bytes++;
            return bytes;
        }

        /** Empties the tape: -1 if it was a text, which is kept then, else the place of its fault. */
        int takeTape(int day) {
            clearNext();
            boolean isText = readRows();
            bytes = 0;
            if (!isText) {
                return place;
            }
            since[count] = day;
            count++;
            return -1;
        }

        int inForce(int day) {
            for (int i = count - 1; i >= 0; i--) {
                if (since[i] <= day) {
                    return i;
                }
            }
            return -1;
        }

        int failing(int text, int kind) {
            return fails[text * KINDS + kind];
        }

        // Rows are read right into the next free text, which counts only if all of them are good.
        private void clearNext() {
            leastBrake[count] = 0;
            brakeGap[count] = 100;
            for (int kind = 0; kind < KINDS; kind++) {
                fails[count * KINDS + kind] = 0;
            }
        }

        private boolean readRows() {
            place = 0;
            for (int rows = 0; rows < MOST_BYTES && place < bytes; rows++) {
                if (!readRow()) {
                    return false;
                }
            }
            return true;
        }

        // Where a row goes wrong, the place stays at the byte that did not fit.
        private boolean readRow() {
            int letter = next();
            if (letter != 'b' && letter != 'd' && letter != 'f') {
                return false;
            }
            place++;
            if (letter == 'f') {
                return readFault();
            }
            int number = readNumber(letter == 'b' ? 3 : 2);
            if (number < 0) {
                return false;
            }
            if (letter == 'b') {
                leastBrake[count] = number;
            } else {
                brakeGap[count] = number;
            }
            return true;
        }

        /** Up to so many digits and the end of the row: the number, or -1. */
        private int readNumber(int mostDigits) {
            int number = 0;
            int digits = 0;
            while (digits < mostDigits && isDigit(next(), '9')) {
                number = number * 10 + next() - '0';
                place++;
                digits++;
            }
            return digits > 0 && readEnd() ? number : -1;
        }

        private boolean readFault() {
            if (!isDigit(next(), '7')) {
                return false;
            }
            int fault = 1 << (next() - '0');
            place++;
            int top = kindOf(next());
            if (top < 0) {
                return false;
            }
            place++;
            if (!readEnd()) {
                return false;
            }
            for (int kind = 0; kind < KINDS; kind++) {
                if (isUnder(kind, top)) {
                    fails[count * KINDS + kind] |= fault;
                }
            }
            return true;
        }

        private boolean readEnd() {
            if (next() != ';') {
                return false;
            }
            place++;
            return true;
        }

        private int next() {
            return place < bytes ? tape[place] : END;
        }

        private static boolean isDigit(int b, int last) {
            return b >= '0' && b <= last;
        }

        private static int kindOf(int letter) {
            switch (letter) {
                case 'v': return VEHICLE;
                case 'c': return CAR;
                case 't': return TAXI;
                case 'r': return TRAILER;
                default: return -1;
            }
        }
    }

    /** Holds the tests against the texts. */
    private static final class Judge {
        private final Vehicles vehicles;
        private final Tests tests;
        private final Texts texts;

        Judge(Vehicles vehicles, Tests tests, Texts texts) {
            this.vehicles = vehicles;
            this.tests = tests;
            this.texts = texts;
        }

        boolean passes(int test) {
            int text = texts.inForce(tests.day[test]);
            if (text < 0) {
                return true;
            }
            int kind = vehicles.kind[tests.vehicle[test]];
            if ((texts.failing(text, kind) & tests.faults[test]) != 0) {
                return false;
            }
            return kind == TRAILER || brakesDo(text, tests.left[test], tests.right[test]);
        }

        private boolean brakesDo(int text, int left, int right) {
            int lesser = left < right ? left : right;
            int greater = left < right ? right : left;
            return lesser >= texts.leastBrake[text]
                && lesser * 100 >= (100 - texts.brakeGap[text]) * greater;
        }

        int unlikeness(int test) {
            boolean isPassed = tests.passed[test] == 1;
            if (isPassed == passes(test)) {
                return 0;
            }
            return isPassed ? UNLIKE_PASS : UNLIKE_FAIL;
        }

        boolean isFalsePass(int test) {
            return tests.passed[test] == 1 && !passes(test);
        }

        boolean isLeaning(int vehicle, int day) {
            int latest = -1;
            for (int i = 0; i < tests.count; i++) {
                if (tests.vehicle[i] == vehicle && tests.day[i] <= day) {
                    latest = i;
                }
            }
            return latest >= 0 && isFalsePass(latest)
                && tests.day[latest] + vehicles.dueDays(vehicle) >= day;
        }
    }

    /** What is strange about a single test. */
    private static final class Signals {
        private static final int ALIKE_BIT = 1;
        private static final int QUICK_BIT = 2;
        private static final int OVERLAP_BIT = 4;
        private static final int SHUT_BIT = 8;
        private static final int UNLIKE_BIT = 16;

        private final Vehicles vehicles;
        private final Trade trade;
        private final Tests tests;
        private final Judge judge;

        Signals(Vehicles vehicles, Trade trade, Tests tests, Judge judge) {
            this.vehicles = vehicles;
            this.trade = trade;
            this.tests = tests;
            this.judge = judge;
        }

        int bits(int test) {
            return (alikeTests(test) > 2 ? ALIKE_BIT : 0)
                | (isQuick(test) ? QUICK_BIT : 0)
                | (isOverlapping(test) ? OVERLAP_BIT : 0)
                | (isShut(test) ? SHUT_BIT : 0)
                | (judge.isFalsePass(test) ? UNLIKE_BIT : 0);
        }

        int testsWithSigns() {
            int signed = 0;
            for (int i = 0; i < tests.count; i++) {
                if (bits(i) != 0) {
                    signed++;
                }
            }
            return signed;
        }

        int alikeTests(int test) {
            int alike = 0;
            for (int i = 0; i < tests.count; i++) {
                if (tests.tester[i] == tests.tester[test] && isAlike(i, test)) {
                    alike++;
                }
            }
            return alike;
        }

        private boolean isAlike(int one, int other) {
            return tests.vehicle[one] != tests.vehicle[other]
                && Math.abs(tests.day[one] - tests.day[other]) <= 30
                && Math.abs(tests.left[one] - tests.left[other]) <= 1
                && Math.abs(tests.right[one] - tests.right[other]) <= 1;
        }

        boolean isQuick(int test) {
            return tests.minutes[test] < FAIR_MINUTES[vehicles.kind[tests.vehicle[test]]];
        }

        boolean isOverlapping(int test) {
            for (int i = 0; i < tests.count; i++) {
                if (i != test && tests.tester[i] == tests.tester[test] && isMeeting(i, test)) {
                    return true;
                }
            }
            return false;
        }

        private boolean isMeeting(int one, int other) {
            return tests.day[one] == tests.day[other]
                && tests.minute[one] < tests.minute[other] + tests.minutes[other]
                && tests.minute[other] < tests.minute[one] + tests.minutes[one];
        }

        boolean isShut(int test) {
            int garage = trade.garageOf(tests, test);
            return tests.minute[test] < trade.opens[garage]
                || tests.minute[test] + tests.minutes[test] > trade.shuts[garage];
        }
    }

    /** What the garages passed, beside what chance would let them pass. */
    private static final class Rates {
        private final Vehicles vehicles;
        private final Trade trade;
        private final Tests tests;
        private final int[] cellTests = new int[AGES * MAKES];
        private final int[] cellPassed = new int[AGES * MAKES];
        private int tested;
        private int passed;
        private int expected;
        private int spread;

        Rates(Vehicles vehicles, Trade trade, Tests tests) {
            this.vehicles = vehicles;
            this.trade = trade;
            this.tests = tests;
        }

        /** The share of a cell in thousandths; -1 if it has no tests. */
        int shareOf(int age, int make) {
            fillCells();
            return cellShare(age * MAKES + make);
        }

        int figure(int garage, int what) {
            fillCells();
            measure(garage);
            switch (what) {
                case 0: return tested;
                case 1: return passed;
                case 2: return expected;
                case 3: return spread;
                case 4: return more();
                default: return beyondChance();
            }
        }

        private void fillCells() {
            for (int cell = 0; cell < AGES * MAKES; cell++) {
                cellTests[cell] = 0;
                cellPassed[cell] = 0;
            }
            for (int i = 0; i < tests.count; i++) {
                int cell = cellOf(i);
                cellTests[cell]++;
                cellPassed[cell] += tests.passed[i];
            }
        }

        private int cellOf(int test) {
            int vehicle = tests.vehicle[test];
            return vehicles.ageClass(vehicle, tests.day[test]) * MAKES + vehicles.make[vehicle];
        }

        private int cellShare(int cell) {
            return cellTests[cell] > 0 ? 1000 * cellPassed[cell] / cellTests[cell] : -1;
        }

        private void measure(int garage) {
            tested = 0;
            passed = 0;
            expected = 0;
            spread = 0;
            for (int i = 0; i < tests.count; i++) {
                if (trade.garageOf(tests, i) == garage) {
                    int share = cellShare(cellOf(i));
                    tested++;
                    passed += tests.passed[i];
                    expected += share;
                    spread += share * (1000 - share);
                }
            }
        }

        private int more() {
            return 1000 * passed - expected;
        }

        private int beyondChance() {
            long more = more();
            long bound = (long) spread * (4 + garagesWithTests());
            if (more * more <= bound) {
                return 0;
            }
            return more > 0 ? 1 : 2;
        }

        private int garagesWithTests() {
            int seen = 0;
            for (int i = 0; i < tests.count; i++) {
                seen |= 1 << trade.garageOf(tests, i);
            }
            return Integer.bitCount(seen);
        }
    }

    /** Miles that fall from one test of a vehicle to its next one. */
    private static final class Odometer {
        private final Tests tests;

        Odometer(Tests tests) {
            this.tests = tests;
        }

        /** 0 if the miles do not fall, 1 if a typed digit tells why, else 2. */
        int fall(int test) {
            int miles = tests.miles[test];
            int least = milesAhead(test);
            if (miles >= least) {
                return 0;
            }
            return isTyped(miles, least, milesBehind(test)) ? 1 : 2;
        }

        private int milesAhead(int test) {
            for (int i = test - 1; i >= 0; i--) {
                if (tests.vehicle[i] == tests.vehicle[test]) {
                    return tests.miles[i];
                }
            }
            return 0;
        }

        private int milesBehind(int test) {
            for (int i = test + 1; i < tests.count; i++) {
                if (tests.vehicle[i] == tests.vehicle[test]) {
                    return tests.miles[i];
                }
            }
            return MILES - 1;
        }

        // The miles are below the least, so only a greater digit helps: a 0 ahead never comes up.
        private static boolean isTyped(int miles, int least, int most) {
            for (int unit = 1; unit < MILES && (unit == 1 || unit <= miles); unit *= 10) {
                int number = miles;
                for (int digit = miles / unit % 10 + 1; digit < 10; digit++) {
                    number += unit;
                    if (number >= least && number <= most) {
                        return true;
                    }
                }
            }
            return false;
        }
    }

    /** Cars whose faults are known, and the tests to which they were sent. */
    private static final class Secrets {
        private final Tests tests;
        private final Texts texts;
        final int[] known = new int[MOST_SECRETS];
        int count;
        int visits;

        Secrets(Tests tests, Texts texts) {
            this.tests = tests;
            this.texts = texts;
        }

        int add(int faults) {
            known[count] = faults;
            count++;
            return count - 1;
        }

        boolean isVisited(int test) {
            return tests.visitor[test] > 0;
        }

        void send(int secret, int test) {
            tests.visitor[test] = 1 + secret;
            visits++;
        }

        int knownIn(int test) {
            return isVisited(test) ? known[tests.visitor[test] - 1] : 0;
        }

        int missed(int test) {
            int text = texts.inForce(tests.day[test]);
            if (text < 0) {
                return 0;
            }
            return knownIn(test) & ~tests.faults[test] & texts.failing(text, CAR);
        }
    }

    /** Points of tests and testers, and bans. */
    private static final class Penalties {
        private static final int LAPSE = 0;
        private static final int BAN = 1;
        private static final int LIMIT = 2;
        private static final int RULES = 3;
        private static final int[] MOST_OF_RULE = {3650, 1000, 200};

        private final Tests tests;
        private final Judge judge;
        private final Signals signals;
        private final Secrets secrets;
        private final int[] rules = {365, 90, 20};
        private final int[] pointsRow = new int[MOST_TESTS];

        Penalties(Tests tests, Judge judge, Signals signals, Secrets secrets) {
            this.tests = tests;
            this.judge = judge;
            this.signals = signals;
            this.secrets = secrets;
        }

        boolean isRule(int what, int v) {
            return isBelow(what, RULES) && v >= 1 && v <= MOST_OF_RULE[what];
        }

        int setRule(int what, int v) {
            int was = rules[what];
            rules[what] = v;
            return was;
        }

        int ofTest(int test) {
            int missed = 10 * Integer.bitCount(secrets.missed(test));
            if (tests.appealed[test] == 1) {
                return missed;
            }
            return missed
                + (judge.isFalsePass(test) ? 6 : 0)
                + (signals.isQuick(test) ? 2 : 0)
                + (signals.isOverlapping(test) ? 4 : 0)
                + (signals.isShut(test) ? 1 : 0);
        }

        int ofTester(int tester, int day) {
            fillPoints(tester);
            return rowSum(day);
        }

        // Points grow only on days of tests: the first day of the span and those days are enough.
        boolean isBanned(int tester, int day) {
            fillPoints(tester);
            int first = day - rules[BAN] + 1;
            if (rowSum(first) >= rules[LIMIT]) {
                return true;
            }
            for (int i = 0; i < tests.count; i++) {
                boolean isWithin = tests.day[i] > first && tests.day[i] <= day;
                if (isWithin && pointsRow[i] > 0 && rowSum(tests.day[i]) >= rules[LIMIT]) {
                    return true;
                }
            }
            return false;
        }

        private void fillPoints(int tester) {
            for (int i = 0; i < tests.count; i++) {
                pointsRow[i] = tests.tester[i] == tester ? ofTest(i) : 0;
            }
        }

        private int rowSum(int day) {
            int points = 0;
            for (int i = 0; i < tests.count; i++) {
                if (tests.day[i] <= day && tests.day[i] > day - rules[LAPSE]) {
                    points += pointsRow[i];
                }
            }
            return points;
        }
    }

    /** Where the secret cars are worth most. */
    private static final class Plan {
        private static final int SETS = 64;

        private final Trade trade;
        private final Tests tests;
        private final Signals signals;
        private final Secrets secrets;
        private final int[] worths = new int[MOST_SECRETS * MOST_GARAGES];
        /** By car and set of taken garages: the most worth of that car and those behind it (0 behind all). */
        private final int[] best = new int[(MOST_SECRETS + 1) * SETS];
        /** Of the garage surveyed last: its risk, and the known faults that were sent there. */
        private int risk;
        private int seen;

        Plan(Trade trade, Tests tests, Signals signals, Secrets secrets) {
            this.trade = trade;
            this.tests = tests;
            this.signals = signals;
            this.secrets = secrets;
        }

        int riskOf(int garage) {
            survey(garage);
            return risk;
        }

        int worthOf(int secret, int garage) {
            survey(garage);
            return risk * newFaults(secret);
        }

        private void survey(int garage) {
            risk = 1;
            seen = 0;
            for (int i = 0; i < tests.count; i++) {
                if (trade.garageOf(tests, i) == garage) {
                    risk += Integer.bitCount(signals.bits(i));
                    seen |= secrets.knownIn(i);
                }
            }
        }

        private int newFaults(int secret) {
            return Integer.bitCount(secrets.known[secret] & ~seen);
        }

        void fillWorths() {
            for (int garage = 0; garage < trade.garages; garage++) {
                survey(garage);
                for (int car = 0; car < secrets.count; car++) {
                    worths[car * MOST_GARAGES + garage] = risk * newFaults(car);
                }
            }
        }

        void fillBest() {
            for (int car = secrets.count - 1; car >= 0; car--) {
                for (int taken = 0; taken < SETS; taken++) {
                    best[car * SETS + taken] = mostFrom(car, taken);
                }
            }
        }

        private int mostFrom(int car, int taken) {
            int most = best[(car + 1) * SETS + taken];
            for (int garage = 0; garage < trade.garages; garage++) {
                if (isFree(taken, garage)) {
                    most = Math.max(most, mostWith(car, garage, taken));
                }
            }
            return most;
        }

        private int mostWith(int car, int garage, int taken) {
            return worths[car * MOST_GARAGES + garage] + best[(car + 1) * SETS + (taken | 1 << garage)];
        }

        private static boolean isFree(int taken, int garage) {
            return (taken >> garage & 1) == 0;
        }

        int most() {
            return best[0];
        }

        /** The garage to which the plan sends a car; -1 if to none. */
        int garageFor(int secret) {
            int taken = 0;
            int garage = -1;
            for (int car = 0; car <= secret; car++) {
                garage = leastGarage(car, taken);
                taken = garage < 0 ? taken : taken | 1 << garage;
            }
            return garage;
        }

        private int leastGarage(int car, int taken) {
            for (int garage = 0; garage < trade.garages; garage++) {
                if (isFree(taken, garage) && mostWith(car, garage, taken) == best[car * SETS + taken]) {
                    return garage;
                }
            }
            return -1;
        }
    }
}
