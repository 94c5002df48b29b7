/** A call of a TradeTests by its name. */
final class Calls {
    private Calls() { }

    static int call(TradeTests x, String name, int... a) {
        switch (name) {
            case "vehicle": return x.vehicle(a[0], a[1], a[2]);
            case "as": return x.as(a[0], a[1]);
            case "garage": return x.garage(a[0], a[1]);
            case "tester": return x.tester(a[0]);
            case "move": return x.move(a[0], a[1], a[2]);
            case "at": return x.at(a[0], a[1]);
            case "test": return x.test(a[0], a[1], a[2], a[3], a[4]);
            case "of": return x.of(a[0], a[1]);
            case "feed": return x.feed(a[0]);
            case "text": return x.text(a[0]);
            case "says": return x.says(a[0], a[1]);
            case "verdict": return x.verdict(a[0]);
            case "unlike": return x.unlike(a[0]);
            case "rate": return x.rate(a[0], a[1]);
            case "share": return x.share(a[0], a[1]);
            case "signs": return x.signs(a[0]);
            case "alike": return x.alike(a[0]);
            case "falls": return x.falls(a[0]);
            case "rule": return x.rule(a[0], a[1]);
            case "appeal": return x.appeal(a[0], a[1]);
            case "points": return x.points(a[0]);
            case "sum": return x.sum(a[0], a[1]);
            case "banned": return x.banned(a[0], a[1]);
            case "secret": return x.secret(a[0]);
            case "visit": return x.visit(a[0], a[1]);
            case "worth": return x.worth(a[0], a[1]);
            case "plan": return x.plan(a[0]);
            case "draw": return x.draw(a[0], a[1], a[2]);
            case "error": return x.error();
            case "leans": return x.leans(a[0], a[1]);
            case "tell": return x.tell(a[0]);
            case "check": return x.check(a[0]);
            case "count": return x.count(a[0]);
            case "found": return x.found(a[0]);
            default: throw new IllegalArgumentException(name);
        }
    }
}
