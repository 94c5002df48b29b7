import java.util.ArrayList;
import java.util.List;
import java.util.regex.Matcher;
import java.util.regex.Pattern;

/** The document written a second time, as plainly as its words go and without a thought of speed. */
final class Model {
    static final int BEYOND = -1000001;
    static final int NONE = -1000002;
    static final int STATE = -1000003;
    static final int FULL = -1000004;
    static final int KIND = -1000005;

    private static final Pattern ROWS = Pattern.compile("(?:b[0-9]{1,3};|d[0-9]{1,2};|f[0-7][vctr];)*");

    record Vehicle(int kind, int make, int built) { }

    record Garage(int from, int to) { }

    record Move(int tester, int garage, int day) { }

    record Text(int day, String rows) { }

    static final class Test {
        int vehicle;
        int tester;
        int day;
        int minute;
        int minutes;
        int miles;
        int left;
        int right;
        int faults;
        boolean passed;
        boolean appealed;
        int chance;
        boolean wrong;
        int secret = -1;
    }

    private final List<Vehicle> vehicles = new ArrayList<>();
    private final List<Garage> garages = new ArrayList<>();
    private final List<Integer> testers = new ArrayList<>();
    private final List<Move> moves = new ArrayList<>();
    private final List<Test> tests = new ArrayList<>();
    private final List<Text> texts = new ArrayList<>();
    private final List<Integer> secrets = new ArrayList<>();
    private final List<Integer> waiting = new ArrayList<>();
    private final StringBuilder tape = new StringBuilder();
    private final int[] found = new int[6];
    private int lapse = 365;
    private int ban = 90;
    private int limit = 20;

    /** One call by its name; what it answers is counted as the document says. */
    int call(String name, int... a) {
        int answer = answer(name, a);
        if (answer < -1000000) {
            found[-1000000 - answer]++;
        }
        return answer;
    }

    private int answer(String name, int[] a) {
        switch (name) {
            case "vehicle": return vehicle(a[0], a[1], a[2]);
            case "as": return as(a[0], a[1]);
            case "garage": return garage(a[0], a[1]);
            case "tester": return tester(a[0]);
            case "move": return move(a[0], a[1], a[2]);
            case "at": return noTester(a[0]) || noDay(a[1]) ? BEYOND : at(a[0], a[1]);
            case "test": return test(a[0], a[1], a[2], a[3], a[4]);
            case "of": return of(a[0], a[1]);
            case "feed": return feed(a[0]);
            case "text": return text(a[0]);
            case "says": return says(a[0], a[1]);
            case "verdict": return noTest(a[0]) ? BEYOND : verdict(tests.get(a[0])) ? 1 : 0;
            case "unlike": return noTest(a[0]) ? BEYOND : unlike(tests.get(a[0]));
            case "rate": return rate(a[0], a[1]);
            case "share": return share(a[0], a[1]);
            case "signs": return noTest(a[0]) ? BEYOND : signs(tests.get(a[0]));
            case "alike": return noTest(a[0]) ? BEYOND : alike(tests.get(a[0]));
            case "falls": return falls(a[0]);
            case "rule": return rule(a[0], a[1]);
            case "appeal": return appeal(a[0], a[1]);
            case "points": return noTest(a[0]) ? BEYOND : points(tests.get(a[0]));
            case "sum": return noTester(a[0]) || noDay(a[1]) ? BEYOND : sum(a[0], a[1]);
            case "banned": return noTester(a[0]) || noDay(a[1]) ? BEYOND : banned(a[0], a[1]);
            case "secret": return secret(a[0]);
            case "visit": return visit(a[0], a[1]);
            case "worth": return noSecret(a[0]) || noGarage(a[1]) ? BEYOND : worth(a[0], a[1]);
            case "plan": return plan(a[0]);
            case "draw": return draw(a[0], a[1], a[2]);
            case "error": return error();
            case "leans": return leans(a[0], a[1]);
            case "tell": return tell(a[0]);
            case "check": return check(a[0]);
            case "count": return count(a[0]);
            case "found": return a[0] < 1 || a[0] > 5 ? BEYOND : found[a[0]];
            default: throw new IllegalArgumentException(name);
        }
    }

    private static boolean outside(int x, int from, int to) {
        return x < from || x > to;
    }

    private static boolean noDay(int day) {
        return outside(day, 0, 9999);
    }

    private boolean noTester(int tester) {
        return outside(tester, 0, testers.size() - 1);
    }

    private boolean noGarage(int garage) {
        return outside(garage, 0, garages.size() - 1);
    }

    private boolean noTest(int test) {
        return outside(test, 0, tests.size() - 1);
    }

    private boolean noVehicle(int vehicle) {
        return outside(vehicle, 0, vehicles.size() - 1);
    }

    private boolean noSecret(int secret) {
        return outside(secret, 0, secrets.size() - 1);
    }

    private int vehicle(int kind, int make, int built) {
        if (outside(kind, 0, 3) || outside(make, 0, 3) || noDay(built)) {
            return BEYOND;
        }
        if (vehicles.size() == 24) {
            return FULL;
        }
        vehicles.add(new Vehicle(kind, make, built));
        return vehicles.size() - 1;
    }

    private static List<Integer> kindAndThoseAbove(int kind) {
        return kind == 0 ? List.of(0) : kind == 1 ? List.of(1, 0) : kind == 2 ? List.of(2, 1, 0) : List.of(3, 0);
    }

    private static int due(int kind) {
        return kind == 2 ? 182 : kind == 3 ? 730 : 365;
    }

    private int as(int vehicle, int kind) {
        if (noVehicle(vehicle) || outside(kind, 0, 3)) {
            return BEYOND;
        }
        int own = vehicles.get(vehicle).kind();
        return kindAndThoseAbove(own).contains(kind) ? due(own) : KIND;
    }

    private int garage(int from, int to) {
        if (outside(from, 0, 1439) || to <= from || to > 1440) {
            return BEYOND;
        }
        if (garages.size() == 6) {
            return FULL;
        }
        garages.add(new Garage(from, to));
        return garages.size() - 1;
    }

    private int tester(int garage) {
        if (noGarage(garage)) {
            return BEYOND;
        }
        if (testers.size() == 8) {
            return FULL;
        }
        testers.add(garage);
        return testers.size() - 1;
    }

    private int move(int tester, int garage, int day) {
        if (noTester(tester) || noGarage(garage) || noDay(day)) {
            return BEYOND;
        }
        for (Move move : moves) {
            if (move.tester() == tester && move.day() > day) {
                return BEYOND;
            }
        }
        if (moves.size() == 30) {
            return FULL;
        }
        int was = at(tester, day - 1);
        moves.add(new Move(tester, garage, day));
        return was;
    }

    private int at(int tester, int day) {
        int garage = testers.get(tester);
        int latest = -1;
        for (Move move : moves) {
            if (move.tester() == tester && move.day() <= day && move.day() >= latest) {
                latest = move.day();
                garage = move.garage();
            }
        }
        return garage;
    }

    private int test(int who, int when, int how, int miles, int brakes) {
        if (who < 0 || when < 0 || how < 0 || miles < 0 || brakes < 0) {
            return BEYOND;
        }
        Test t = new Test();
        t.vehicle = who / 100;
        t.tester = who % 100;
        t.minute = when / 10000;
        t.day = when % 10000;
        t.minutes = how / 1000;
        int rest = how % 1000;
        t.passed = rest >= 256;
        t.faults = t.passed ? rest - 256 : rest;
        t.miles = miles;
        t.left = brakes / 1000;
        t.right = brakes % 1000;
        if (noVehicle(t.vehicle) || noTester(t.tester) || t.faults > 255 || miles > 999999 || t.left > 999) {
            return BEYOND;
        }
        if (outside(t.minutes, 1, 240) || t.minute + t.minutes > 1440) {
            return BEYOND;
        }
        Vehicle vehicle = vehicles.get(t.vehicle);
        if (vehicle.kind() == 3 && miles != 0 || vehicle.built() > t.day) {
            return BEYOND;
        }
        for (Test other : tests) {
            if (other.day > t.day) {
                return BEYOND;
            }
        }
        if (tests.size() == 80) {
            return FULL;
        }
        tests.add(t);
        return tests.size() - 1;
    }

    private int of(int test, int what) {
        if (noTest(test) || outside(what, 0, 10)) {
            return BEYOND;
        }
        Test t = tests.get(test);
        return new int[] {t.vehicle, t.tester, t.day, t.minute, t.minutes, t.miles, t.left, t.right,
            t.faults, t.passed ? 1 : 0, at(t.tester, t.day)}[what];
    }

    private int feed(int b) {
        if (outside(b, 0, 255)) {
            return BEYOND;
        }
        if (tape.length() == 60) {
            return FULL;
        }
        tape.append((char) b);
        return tape.length();
    }

    private int text(int day) {
        if (noDay(day)) {
            return BEYOND;
        }
        if (texts.size() == 6) {
            return FULL;
        }
        String rows = tape.toString();
        tape.setLength(0);
        for (int n = 1; n <= rows.length(); n++) {
            Matcher start = ROWS.matcher(rows.substring(0, n));
            if (!start.matches() && !start.hitEnd()) {
                return -10 - (n - 1);
            }
        }
        if (!ROWS.matcher(rows).matches()) {
            return -10 - rows.length();
        }
        texts.add(new Text(day, rows));
        return texts.size();
    }

    private String rowsOn(int day) {
        String rows = null;
        for (Text text : texts) {
            if (text.day() <= day) {
                rows = text.rows();
            }
        }
        return rows;
    }

    private static int lastNumber(String rows, char letter, int other) {
        int number = other;
        for (String row : rows.split(";")) {
            if (!row.isEmpty() && row.charAt(0) == letter) {
                number = Integer.parseInt(row.substring(1));
            }
        }
        return number;
    }

    private static int failing(String rows, int kind) {
        int bits = 0;
        for (String row : rows.split(";")) {
            if (row.startsWith("f") && kindAndThoseAbove(kind).contains("vctr".indexOf(row.charAt(2)))) {
                bits |= 1 << (row.charAt(1) - '0');
            }
        }
        return bits;
    }

    private int says(int day, int what) {
        if (noDay(day) || outside(what, 0, 1) && outside(what, 10, 13)) {
            return BEYOND;
        }
        String rows = rowsOn(day);
        if (rows == null) {
            return NONE;
        }
        return what == 0 ? lastNumber(rows, 'b', 0) : what == 1 ? lastNumber(rows, 'd', 100) : failing(rows, what - 10);
    }

    private int kindOf(Test t) {
        return vehicles.get(t.vehicle).kind();
    }

    private boolean verdict(Test t) {
        String rows = rowsOn(t.day);
        if (rows == null) {
            return true;
        }
        int least = lastNumber(rows, 'b', 0);
        int gap = lastNumber(rows, 'd', 100);
        boolean strong = t.left >= least && t.right >= least;
        boolean even = t.left * 100 >= t.right * (100 - gap) && t.right * 100 >= t.left * (100 - gap);
        return (kindOf(t) == 3 || strong && even) && (t.faults & failing(rows, kindOf(t))) == 0;
    }

    private int unlike(Test t) {
        return t.passed && !verdict(t) ? 1 : !t.passed && verdict(t) ? 2 : 0;
    }

    private int age(Test t) {
        int days = t.day - vehicles.get(t.vehicle).built();
        return days < 3 * 365 ? 0 : days < 6 * 365 ? 1 : days < 10 * 365 ? 2 : 3;
    }

    private int shareOf(int age, int make) {
        int all = 0;
        int passed = 0;
        for (Test t : tests) {
            if (age(t) == age && vehicles.get(t.vehicle).make() == make) {
                all++;
                passed += t.passed ? 1 : 0;
            }
        }
        return all == 0 ? NONE : 1000 * passed / all;
    }

    private List<Test> testsAt(int garage) {
        List<Test> there = new ArrayList<>();
        for (Test t : tests) {
            if (at(t.tester, t.day) == garage) {
                there.add(t);
            }
        }
        return there;
    }

    private int rate(int garage, int what) {
        if (noGarage(garage) || outside(what, 0, 6)) {
            return BEYOND;
        }
        int passed = 0;
        int expected = 0;
        int spread = 0;
        for (Test t : testsAt(garage)) {
            int share = shareOf(age(t), vehicles.get(t.vehicle).make());
            passed += t.passed ? 1 : 0;
            expected += share;
            spread += share * (1000 - share);
        }
        int looked = 0;
        for (int g = 0; g < garages.size(); g++) {
            looked += testsAt(g).isEmpty() ? 0 : 1;
        }
        long more = 1000L * passed - expected;
        boolean beyond = more * more > (long) spread * (4 + looked);
        int judged = !beyond ? 0 : more > 0 ? 1 : more < 0 ? 2 : 0;
        return new int[] {testsAt(garage).size(), passed, expected, spread, (int) more, judged, risk(garage)}[what];
    }

    private int share(int age, int make) {
        return outside(age, 0, 3) || outside(make, 0, 3) ? BEYOND : shareOf(age, make);
    }

    private int alike(Test t) {
        int alike = 0;
        for (Test o : tests) {
            if (o != t && o.tester == t.tester && o.vehicle != t.vehicle && Math.abs(o.day - t.day) < 31
                && Math.abs(o.left - t.left) < 2 && Math.abs(o.right - t.right) < 2) {
                alike++;
            }
        }
        return alike;
    }

    private boolean quick(Test t) {
        return t.minutes < (kindOf(t) == 2 ? 30 : kindOf(t) == 3 ? 10 : 20);
    }

    private boolean overlap(Test t) {
        for (Test o : tests) {
            if (o != t && o.tester == t.tester && o.day == t.day) {
                for (int m = t.minute; m < t.minute + t.minutes; m++) {
                    if (m >= o.minute && m < o.minute + o.minutes) {
                        return true;
                    }
                }
            }
        }
        return false;
    }

    private boolean shut(Test t) {
        Garage garage = garages.get(at(t.tester, t.day));
        for (int m = t.minute; m < t.minute + t.minutes; m++) {
            if (m < garage.from() || m >= garage.to()) {
                return true;
            }
        }
        return false;
    }

    private int signs(Test t) {
        int signs = 0;
        signs += alike(t) > 2 ? 1 : 0;
        signs += quick(t) ? 2 : 0;
        signs += overlap(t) ? 4 : 0;
        signs += shut(t) ? 8 : 0;
        signs += unlike(t) == 1 ? 16 : 0;
        return signs;
    }

    private int falls(int test) {
        if (noTest(test)) {
            return BEYOND;
        }
        Test t = tests.get(test);
        if (kindOf(t) == 3) {
            return KIND;
        }
        List<Test> own = new ArrayList<>();
        for (Test o : tests) {
            if (o.vehicle == t.vehicle) {
                own.add(o);
            }
        }
        int place = own.indexOf(t);
        if (place == 0 || own.get(place - 1).miles <= t.miles) {
            return 0;
        }
        int least = own.get(place - 1).miles;
        int most = place + 1 < own.size() ? own.get(place + 1).miles : Integer.MAX_VALUE;
        String digits = Integer.toString(t.miles);
        for (int i = 0; i < digits.length(); i++) {
            for (char c = '0'; c <= '9'; c++) {
                String other = digits.substring(0, i) + c + digits.substring(i + 1);
                int number = Integer.parseInt(other);
                boolean written = Integer.toString(number).equals(other);
                if (written && !other.equals(digits) && number >= least && number <= most) {
                    return 1;
                }
            }
        }
        return 2;
    }

    private int rule(int what, int v) {
        if (outside(what, 0, 2) || outside(v, 1, what == 0 ? 3650 : what == 1 ? 1000 : 200)) {
            return BEYOND;
        }
        int was = what == 0 ? lapse : what == 1 ? ban : limit;
        lapse = what == 0 ? v : lapse;
        ban = what == 1 ? v : ban;
        limit = what == 2 ? v : limit;
        return was;
    }

    private int appeal(int test, int is) {
        if (noTest(test) || outside(is, 0, 1)) {
            return BEYOND;
        }
        int was = tests.get(test).appealed ? 1 : 0;
        tests.get(test).appealed = is == 1;
        return was;
    }

    private int missed(Test t) {
        String rows = rowsOn(t.day);
        int missed = 0;
        for (int fault = 0; fault < 8 && rows != null && t.secret >= 0; fault++) {
            int bit = 1 << fault;
            boolean known = (secrets.get(t.secret) & bit) != 0;
            if (known && (t.faults & bit) == 0 && (failing(rows, 1) & bit) != 0) {
                missed += bit;
            }
        }
        return missed;
    }

    private int points(Test t) {
        int points = (unlike(t) == 1 ? 6 : 0) + (quick(t) ? 2 : 0) + (overlap(t) ? 4 : 0) + (shut(t) ? 1 : 0);
        return (t.appealed ? 0 : points) + 10 * Integer.bitCount(missed(t));
    }

    private int sum(int tester, int day) {
        int sum = 0;
        for (Test t : tests) {
            if (t.tester == tester && t.day <= day && t.day >= day - (lapse - 1)) {
                sum += points(t);
            }
        }
        return sum;
    }

    private int banned(int tester, int day) {
        int[] byDay = new int[10000];
        for (Test t : tests) {
            if (t.tester == tester) {
                byDay[t.day] += points(t);
            }
        }
        for (int d = Math.max(0, day - (ban - 1)); d <= day; d++) {
            int sum = 0;
            for (int i = Math.max(0, d - (lapse - 1)); i <= d; i++) {
                sum += byDay[i];
            }
            if (sum >= limit) {
                return 1;
            }
        }
        return 0;
    }

    private int secret(int faults) {
        if (outside(faults, 1, 255)) {
            return BEYOND;
        }
        if (secrets.size() == 6) {
            return FULL;
        }
        secrets.add(faults);
        return secrets.size() - 1;
    }

    private int visit(int secret, int test) {
        if (noSecret(secret) || noTest(test)) {
            return BEYOND;
        }
        if (tests.get(test).secret >= 0) {
            return STATE;
        }
        tests.get(test).secret = secret;
        return missed(tests.get(test));
    }

    private int risk(int garage) {
        int risk = 1;
        for (Test t : testsAt(garage)) {
            risk += Integer.bitCount(signs(t));
        }
        return risk;
    }

    private int worth(int secret, int garage) {
        int sent = 0;
        for (Test t : testsAt(garage)) {
            sent |= t.secret >= 0 ? secrets.get(t.secret) : 0;
        }
        return risk(garage) * Integer.bitCount(secrets.get(secret) & ~sent);
    }

    private int plan(int secret) {
        if (secret != -1 && noSecret(secret)) {
            return BEYOND;
        }
        int[][] worths = new int[secrets.size()][garages.size()];
        for (int s = 0; s < secrets.size(); s++) {
            for (int g = 0; g < garages.size(); g++) {
                worths[s][g] = worth(s, g);
            }
        }
        int[] best = new int[secrets.size()];
        int most = tryAll(worths, new int[secrets.size()], 0, best, -1);
        if (secret == -1) {
            return most;
        }
        return best[secret] == garages.size() ? NONE : best[secret];
    }

    /** Plans come in the order of the document, so that only a better one takes the place of the best. */
    private int tryAll(int[][] worths, int[] plan, int car, int[] best, int most) {
        if (car == plan.length) {
            int all = 0;
            for (int s = 0; s < plan.length; s++) {
                all += plan[s] < garages.size() ? worths[s][plan[s]] : 0;
            }
            if (all > most) {
                System.arraycopy(plan, 0, best, 0, plan.length);
                return all;
            }
            return most;
        }
        int now = most;
        for (int g = 0; g <= garages.size(); g++) {
            boolean taken = false;
            for (int s = 0; s < car; s++) {
                taken |= g < garages.size() && plan[s] == g;
            }
            if (!taken) {
                plan[car] = g;
                now = tryAll(worths, plan, car + 1, best, now);
            }
        }
        return now;
    }

    private int drawn() {
        int drawn = 0;
        for (Test t : tests) {
            drawn += t.chance > 0 ? 1 : 0;
        }
        return drawn;
    }

    private int draw(int test, int chance, int wrong) {
        if (noTest(test) || outside(chance, 1, 100) || outside(wrong, 0, 1)) {
            return BEYOND;
        }
        if (tests.get(test).chance > 0) {
            return STATE;
        }
        tests.get(test).chance = chance;
        tests.get(test).wrong = wrong == 1;
        return drawn();
    }

    private int error() {
        if (drawn() == 0) {
            return NONE;
        }
        long all = 0;
        long bad = 0;
        for (Test t : tests) {
            all += t.chance > 0 ? 10000 / t.chance : 0;
            bad += t.chance > 0 && t.wrong ? 10000 / t.chance : 0;
        }
        return (int) (bad * 1000 / all);
    }

    private boolean leaning(int vehicle, int day) {
        Test latest = null;
        for (Test t : tests) {
            latest = t.vehicle == vehicle && t.day <= day ? t : latest;
        }
        return latest != null && latest.passed && unlike(latest) == 1
            && day - latest.day <= due(vehicles.get(vehicle).kind());
    }

    private int leans(int vehicle, int day) {
        if (vehicle != -1 && noVehicle(vehicle) || noDay(day)) {
            return BEYOND;
        }
        int leaning = 0;
        for (int v = 0; v < vehicles.size(); v++) {
            leaning += (vehicle == -1 || vehicle == v) && leaning(v, day) ? 1 : 0;
        }
        return leaning;
    }

    private int tell(int v) {
        if (waiting.size() == 8) {
            return FULL;
        }
        waiting.add(v);
        return waiting.size();
    }

    private int check(int day) {
        List<Integer> told = new ArrayList<>(waiting);
        waiting.clear();
        if (noDay(day)) {
            return BEYOND;
        }
        for (int i = 0; i < told.size(); i++) {
            if (noTester(i) || told.get(i) != sum(i, day)) {
                return 1 + i;
            }
        }
        return 0;
    }

    private int count(int what) {
        if (outside(what, 0, 10)) {
            return BEYOND;
        }
        int visits = 0;
        int signed = 0;
        for (Test t : tests) {
            visits += t.secret >= 0 ? 1 : 0;
            signed += what == 10 && signs(t) != 0 ? 1 : 0;
        }
        return new int[] {vehicles.size(), garages.size(), testers.size(), tests.size(), texts.size(),
            secrets.size(), visits, drawn(), tape.length(), waiting.size(), signed}[what];
    }
}
