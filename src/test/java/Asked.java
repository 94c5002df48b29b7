/** A TradeTests that is asked no more often than the document promises answers. */
final class Asked {
    static final int MOST_CALLS = 512;

    private final TradeTests trade = new TradeTests();
    private int calls = 0;

    int calls() {
        return calls;
    }

    private TradeTests next() {
        if (calls == MOST_CALLS) {
            throw new IllegalStateException("a test asks more than " + MOST_CALLS + " calls of one object");
        }
        calls++;
        return trade;
    }

    int vehicle(int kind, int make, int built) {
        return next().vehicle(kind, make, built);
    }

    int as(int vehicle, int kind) {
        return next().as(vehicle, kind);
    }

    int garage(int from, int to) {
        return next().garage(from, to);
    }

    int tester(int garage) {
        return next().tester(garage);
    }

    int move(int tester, int garage, int day) {
        return next().move(tester, garage, day);
    }

    int at(int tester, int day) {
        return next().at(tester, day);
    }

    int test(int who, int when, int how, int miles, int brakes) {
        return next().test(who, when, how, miles, brakes);
    }

    int of(int test, int what) {
        return next().of(test, what);
    }

    int feed(int b) {
        return next().feed(b);
    }

    int text(int day) {
        return next().text(day);
    }

    int says(int day, int what) {
        return next().says(day, what);
    }

    int verdict(int test) {
        return next().verdict(test);
    }

    int unlike(int test) {
        return next().unlike(test);
    }

    int rate(int garage, int what) {
        return next().rate(garage, what);
    }

    int share(int age, int make) {
        return next().share(age, make);
    }

    int signs(int test) {
        return next().signs(test);
    }

    int alike(int test) {
        return next().alike(test);
    }

    int falls(int test) {
        return next().falls(test);
    }

    int rule(int what, int v) {
        return next().rule(what, v);
    }

    int appeal(int test, int is) {
        return next().appeal(test, is);
    }

    int points(int test) {
        return next().points(test);
    }

    int sum(int tester, int day) {
        return next().sum(tester, day);
    }

    int banned(int tester, int day) {
        return next().banned(tester, day);
    }

    int secret(int faults) {
        return next().secret(faults);
    }

    int visit(int secret, int test) {
        return next().visit(secret, test);
    }

    int worth(int secret, int garage) {
        return next().worth(secret, garage);
    }

    int plan(int secret) {
        return next().plan(secret);
    }

    int draw(int test, int chance, int wrong) {
        return next().draw(test, chance, wrong);
    }

    int error() {
        return next().error();
    }

    int leans(int vehicle, int day) {
        return next().leans(vehicle, day);
    }

    int tell(int v) {
        return next().tell(v);
    }

    int check(int day) {
        return next().check(day);
    }

    int count(int what) {
        return next().count(what);
    }

    int found(int k) {
        return next().found(k);
    }

    /** A call by its name. */
    int call(String name, int... a) {
        switch (name) {
            case "vehicle": return vehicle(a[0], a[1], a[2]);
            case "as": return as(a[0], a[1]);
            case "garage": return garage(a[0], a[1]);
            case "tester": return tester(a[0]);
            case "move": return move(a[0], a[1], a[2]);
            case "at": return at(a[0], a[1]);
            case "test": return test(a[0], a[1], a[2], a[3], a[4]);
            case "of": return of(a[0], a[1]);
            case "feed": return feed(a[0]);
            case "text": return text(a[0]);
            case "says": return says(a[0], a[1]);
            case "verdict": return verdict(a[0]);
            case "unlike": return unlike(a[0]);
            case "rate": return rate(a[0], a[1]);
            case "share": return share(a[0], a[1]);
            case "signs": return signs(a[0]);
            case "alike": return alike(a[0]);
            case "falls": return falls(a[0]);
            case "rule": return rule(a[0], a[1]);
            case "appeal": return appeal(a[0], a[1]);
            case "points": return points(a[0]);
            case "sum": return sum(a[0], a[1]);
            case "banned": return banned(a[0], a[1]);
            case "secret": return secret(a[0]);
            case "visit": return visit(a[0], a[1]);
            case "worth": return worth(a[0], a[1]);
            case "plan": return plan(a[0]);
            case "draw": return draw(a[0], a[1], a[2]);
            case "error": return error();
            case "leans": return leans(a[0], a[1]);
            case "tell": return tell(a[0]);
            case "check": return check(a[0]);
            case "count": return count(a[0]);
            case "found": return found(a[0]);
            default: throw new IllegalArgumentException(name);
        }
    }
}
