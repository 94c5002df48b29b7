/** The edges of the tape, the texts and the verdicts by them: promises 10 to 14. */
public final class TextEdgesTest extends Edges {
    private static final String SIXTY = "f0v;f1v;f2v;f3v;f4v;f5v;f6v;f7v;b12;d34;f0c;f1c;f2c;f3c;f4c;";

    private void faultAt(int place, String rows) {
        due(-10 - place, text(0, rows), "text \"" + rows + "\"");
    }

    private void isText(String rows) {
        fresh();
        due(1, text(0, rows), "text \"" + rows + "\"");
    }

    // ---- promise 10: feed

    @Says(promise = 10, value = "THE TAPE (bytes, at most 60)")
    void sixtyBytes() {
        for (int i = 1; i <= 60; i++) {
            due(i, x.feed(SIXTY.charAt(i - 1)), "byte " + i);
        }
        due(FULL, x.feed('b'), "byte 61");
        due(FULL, x.feed(';'), "byte 61 again");
        due(60, x.count(8), "count");
        due(1, x.text(0), "all sixty are a text");
        due(255, x.says(0, 10), "and all of its rows hold");
        due(1, x.feed('b'), "the tape begins anew");
    }

    @Says(promise = 10, value = "BEYOND: it isn't 0 .. 255. FULL.")
    void bytesGoFromZeroTo255() {
        dueOfEach(BEYOND, new int[] {-1, 256}, "feed", 0, 0);
        dueOfEach(BEYOND, FAR, "feed", 0, 0);
        due(0, x.count(8), "count behind refused ones");
        due(1, x.feed(0), "byte 0");
        due(2, x.feed(255), "byte 255");
    }

    @Says(promise = 10, value = "BEYOND: it isn't 0 .. 255. FULL.")
    void aByteBeyondWhenFull() {
        feed(SIXTY);
        due(BEYOND, x.feed(-1), "byte -1");
        due(BEYOND, x.feed(256), "byte 256");
        due(BEYOND, x.feed(LEAST), "the least byte");
        due(BEYOND, x.feed(GREATEST), "the greatest byte");
        due(FULL, x.feed(0), "full alone");
    }

    // ---- promise 11: text

    @Says(promise = 11, value = "b and 1 to 3 digits and ;")
    void digitsOfB() {
        faultAt(1, "b;");
        faultAt(4, "b0000;");
        faultAt(4, "b1234;");
        faultAt(1, "b-1;");
        faultAt(1, "bb1;");
        faultAt(2, "b1 ;");
        for (String rows : new String[] {"b0;", "b9;", "b00;", "b99;", "b000;", "b999;"}) {
            isText(rows);
            due(Integer.parseInt(rows.substring(1, rows.length() - 1)), x.says(0, 0), "the least brake");
        }
    }

    @Says(promise = 11, value = "d and 1 to 2 digits and ;")
    void digitsOfD() {
        faultAt(1, "d;");
        faultAt(3, "d000;");
        faultAt(3, "d100;");
        faultAt(1, "d-1;");
        faultAt(2, "d1d;");
        for (String rows : new String[] {"d0;", "d9;", "d00;", "d99;"}) {
            isText(rows);
            due(Integer.parseInt(rows.substring(1, rows.length() - 1)), x.says(0, 1), "the hundredths");
        }
    }

    @Says(promise = 11, value = "b and 1 to 3 digits and ;")
    void digitsAreThoseFromZeroToNine() {
        faultAt(1, "b/;");
        faultAt(1, "b:;");
        faultAt(1, "d/;");
        faultAt(1, "d:;");
        faultAt(2, "b0/;");
        faultAt(3, "b09:;");
        faultAt(1, "b\u00b2;");
    }

    @Says(promise = 11, value = "f and a digit 0 .. 7 and a letter and ; (that FAULT fails; v all VEHICLES, c CARS, t TAXIS, r TRAILERS")
    void faultsAndLettersOfF() {
        faultAt(1, "f8v;");
        faultAt(1, "f9v;");
        faultAt(1, "f/v;");
        faultAt(1, "fv;");
        faultAt(2, "f0;");
        faultAt(2, "f00v;");
        faultAt(3, "f0vv;");
        faultAt(3, "f0v,");
        for (char other : "abdefgquswxV CTR80".toCharArray()) {
            faultAt(2, "f0" + other + ";");
        }
        for (char letter : "vctr".toCharArray()) {
            isText("f0" + letter + ";");
            isText("f7" + letter + ";");
        }
    }

    @Says(promise = 11, value = "The FAULT of a text: the place of the first byte with which none begins so")
    void placeOfTheFirstByte() {
        for (int b : new int[] {0, 'a', 'c', 'e', 'g', 'B', 'D', 'F', ';', '0', ' ', 255}) {
            x.feed(b);
            due(-10, x.text(0), "byte " + b + " at the first place");
        }
        faultAt(3, "b1;x");
        faultAt(3, "b1;;");
        faultAt(3, "b1;1");
        faultAt(6, "b1;d2;v");
        faultAt(8, "b1;d2;f3b;");
        faultAt(3, "b1;xb2;y");
        due(0, x.count(4), "texts");
    }

    @Says(promise = 11, value = "The FAULT of a text: the place of the first byte with which none begins so")
    void placeOfTheLastByteOfAFullTape() {
        faultAt(59, SIXTY.substring(0, 59) + ",");
        faultAt(58, SIXTY.substring(0, 58) + ";;");
        faultAt(0, "x" + SIXTY.substring(1));
        due(1, text(0, SIXTY), "and a full tape without a fault");
    }

    @Says(promise = 11, value = "(how many there are, if it ends too early)")
    void endsTooEarly() {
        for (String rows : new String[] {"b", "b1", "b12", "b123", "d", "d1", "d12", "f", "f0", "f7r"}) {
            faultAt(rows.length(), rows);
            faultAt(4 + rows.length(), "b77;" + rows);
        }
        faultAt(59, SIXTY.substring(0, 59));
        faultAt(60, SIXTY.substring(0, 56) + "b123");
        faultAt(60, SIXTY.substring(0, 56) + "b1;d");
        due(0, x.count(4), "texts");
    }

    @Says(promise = 11, value = "TEXTS are read from THE TAPE (bytes, at most 60), each in force from a DAY on: ROWS, one behind the other")
    void aTextWithoutRows() {
        due(1, x.text(5), "nothing was fed");
        due(0, x.says(5, 0), "the least brake");
        due(100, x.says(5, 1), "the hundredths");
        due(0, x.says(5, 10), "faults that fail");
        due(NONE, x.says(4, 0), "the day ahead of it");
    }

    @Says(promise = 11, value = "At most 6 TEXTS")
    void sixTexts() {
        for (int i = 1; i <= 6; i++) {
            due(i, text(10 * i, "b" + i + ";"), "text " + i);
        }
        due(FULL, text(100, "b7;"), "text 7");
        due(6, x.count(4), "count");
        due(6, x.says(9999, 0), "the last one holds");
        due(1, x.says(10, 0), "the first one holds");
    }

    @Says(promise = 11, value = "At most 6 TEXTS")
    void theSixthTextHasAllItsRows() {
        for (int i = 1; i <= 6; i++) {
            due(i, text(i, "f0v;f1c;f2t;f3r;b" + i + ";d" + i + ";"), "text " + i);
        }
        for (int day : new int[] {1, 6}) {
            due(day, x.says(day, 0), "the least brake on day " + day);
            due(day, x.says(day, 1), "the hundredths on day " + day);
            due(0b0001, x.says(day, 10), "kind 0 on day " + day);
            due(0b0011, x.says(day, 11), "kind 1 on day " + day);
            due(0b0111, x.says(day, 12), "kind 2 on day " + day);
            due(0b1001, x.says(day, 13), "kind 3 on day " + day);
        }
    }

    @Says(promise = 11, value = "At most 6 TEXTS")
    void faultyOnesAreNotAmongTheSix() {
        for (int i = 1; i <= 6; i++) {
            faultAt(1, "bx");
            due(i, text(0, "b" + i + ";"), "text " + i);
        }
        due(FULL, text(0, "b7;"), "text 7");
    }

    @Says(promise = 11, value = "THE TAPE, which is empty then, is a TEXT from a DAY on: how many TEXTS")
    void theTapeIsEmptyBehindAText() {
        due(1, text(0, "b1;"), "a text");
        due(0, x.count(8), "bytes");
        due(1, x.feed('d'), "the first byte of the next");
        due(2, text(0, "1;"), "the next text");
        due(0, x.says(0, 0), "nothing is left of the one ahead");
    }

    @Says(promise = 11, value = "-10 less its FAULT (none comes)")
    void theTapeIsEmptyBehindAFaultToo() {
        due(1, text(0, "b5;f1v;"), "a text");
        due(-29, text(0, "b6;f2v;f3r;f4c;f5t;x"), "a fault behind good rows");
        due(0, x.count(8), "bytes");
        due(1, x.count(4), "texts");
        due(5, x.says(0, 0), "the text ahead is in force");
        due(2, x.says(0, 10), "with all of its rows");
        due(2, text(0, "d7;"), "the next text");
        due(0, x.says(0, 0), "nothing is left of the faulty one");
        for (int kind = 0; kind < 4; kind++) {
            due(0, x.says(0, 10 + kind), "nor of its faults, kind " + kind);
        }
        due(0, x.found(1) + x.found(2) + x.found(3) + x.found(4) + x.found(5), "a fault is no finding");
    }

    @Says(promise = 11, value = "BEYOND: it isn't a day (THE TAPE stays).")
    void theTapeStaysWhereItIsNoDay() {
        feed("b1");
        dueOfEach(BEYOND, NO_DAYS, "text", 0, 0);
        dueOfEach(BEYOND, FAR, "text", 0, 0);
        due(2, x.count(8), "bytes");
        due(3, x.feed('2'), "the next byte");
        due(4, x.feed(';'), "the byte behind it");
        due(1, x.text(9999), "the last day");
        due(12, x.says(9999, 0), "the bytes are as they were fed");
        due(2, text(0, "b3;"), "the first day");
        due(3, x.says(0, 0), "from the first day on");
    }

    @Says(promise = 11, value = "BEYOND: it isn't a day (THE TAPE stays).")
    void aFaultyTapeStaysWhereItIsNoDay() {
        feed("x");
        due(BEYOND, x.text(-1), "no day, and a fault");
        due(1, x.count(8), "bytes");
        due(-10, x.text(0), "the fault");
    }

    @Says(promise = 11, value = "FULL (likewise).")
    void theTapeStaysWhereTextsAreFull() {
        for (int i = 1; i <= 6; i++) {
            due(i, text(0, "b" + i + ";"), "text " + i);
        }
        due(FULL, text(0, "b7;"), "text 7");
        due(3, x.count(8), "bytes");
        due(FULL, x.text(9999), "text 7 again");
        due(4, x.feed('x'), "the tape goes on");
        due(FULL, x.text(0), "full comes ahead of a fault");
        due(4, x.count(8), "bytes again");
        due(6, x.says(0, 0), "the last text holds");
        due(BEYOND, x.text(10000), "beyond comes ahead of full");
        due(BEYOND, x.text(-1), "beyond comes ahead of full, below");
        due(4, x.count(8), "bytes behind all of them");
    }

    // ---- promise 12: says

    @Says(promise = 12, value = "IN FORCE on a DAY: the one told last of those from that day or ahead")
    void inForceIsTheOneToldLast() {
        text(20, "b20;");
        text(10, "b10;");
        text(30, "b30;");
        text(30, "b31;");
        int[][] want = {{10, 10}, {19, 10}, {20, 10}, {29, 10}, {30, 31}, {9999, 31}};
        for (int[] w : want) {
            due(w[1], x.says(w[0], 0), "day " + w[0]);
        }
        due(NONE, x.says(9, 0), "day 9");
        text(0, "b0;");
        due(0, x.says(0, 0), "day 0 by a text from day 0");
        due(0, x.says(9999, 0), "day 9999 by a text from day 0 told last");
        text(9999, "b99;");
        due(0, x.says(9998, 0), "the day ahead of a text from the last day");
        due(99, x.says(9999, 0), "a text from the last day");
    }

    @Says(promise = 12, value = "what 0 the least BRAKE (0), 1 the hundredths of d (100)")
    void whatIsNotTold() {
        text(0, "f0v;");
        due(0, x.says(0, 0), "no row b");
        due(100, x.says(0, 1), "no row d");
        text(0, "b0;d0;");
        due(0, x.says(0, 0), "b0");
        due(0, x.says(0, 1), "d0");
        text(0, "b999;d99;");
        due(999, x.says(0, 0), "b999");
        due(99, x.says(0, 1), "d99");
    }

    @Says(promise = 12, value = "of several such ROWS the last one")
    void ofSeveralRowsTheLast() {
        text(0, "b5;b900;b7;");
        due(7, x.says(0, 0), "a lesser one behind a greater one");
        text(0, "b7;d1;b900;");
        due(900, x.says(0, 0), "a greater one behind a lesser one");
        text(0, "d5;d90;d7;");
        due(7, x.says(0, 1), "of rows d likewise");
    }

    @Says(promise = 12, value = "v all VEHICLES, c CARS, t TAXIS, r TRAILERS, each and those under it")
    void eachKindAndThoseUnderIt() {
        text(0, "f0v;f1c;f2t;f3r;f7v;f6c;f5t;f4r;");
        int[] want = {0b10000001, 0b11000011, 0b11100111, 0b10011001};
        for (int kind = 0; kind < 4; kind++) {
            due(want[kind], x.says(0, 10 + kind), "kind " + kind);
        }
        text(0, "f0r;f0r;f0t;");
        due(0, x.says(0, 10), "a fault told twice, of kind 0");
        due(0, x.says(0, 11), "of kind 1");
        due(1, x.says(0, 12), "of kind 2");
        due(1, x.says(0, 13), "of kind 3");
    }

    @Says(promise = 12, value = "BEYOND. NONE: there is none in force.")
    void saysBeyondAndNone() {
        due(NONE, x.says(0, 0), "without a text");
        due(NONE, x.says(9999, 13), "without a text, the last day and what");
        text(10, "b1;");
        due(NONE, x.says(9, 0), "the day ahead of the text");
        due(1, x.says(10, 0), "the day of the text");
        for (int day : new int[] {9, 10}) {
            dueOfEach(BEYOND, new int[] {-1, 2, 9, 14}, "says", 1, day, 0);
            dueOfEach(BEYOND, FAR, "says", 1, day, 0);
        }
        dueOfEach(BEYOND, NO_DAYS, "says", 0, 0, 0);
        dueOfEach(BEYOND, FAR, "says", 0, 0, 0);
        due(0, x.says(9999, 13), "the last day and what");
    }

    // ---- promise 13: verdict

    private int verdict(int vehicle, int faults, int left, int right) {
        return x.verdict(trial().vehicle(vehicle).faults(faults).brakes(left, right).on(x));
    }

    private void brakes(int want, int left, int right) {
        due(want, verdict(0, 0, left, right), "brakes " + left + " and " + right);
    }

    private void carUnder(String rows) {
        fresh();
        garages(1);
        vehicles(1);
        due(1, text(0, rows), "the text");
    }

    @Says(promise = 13, value = "(each BRAKE must be that or more")
    void eachBrakeIsAtTheLeast() {
        carUnder("b300;");
        brakes(1, 300, 300);
        brakes(0, 299, 300);
        brakes(0, 300, 299);
        brakes(1, 999, 300);
        brakes(0, 999, 299);
        brakes(0, 0, 0);
        carUnder("b0;");
        brakes(1, 0, 0);
        carUnder("b999;");
        brakes(1, 999, 999);
        brakes(0, 998, 999);
        brakes(0, 999, 998);
    }

    @Says(promise = 13, value = "(of both BRAKES the lesser one must be 100 less that hundredths of the greater one, or more)")
    void theLesserBrakeByTheGreater() {
        carUnder("d20;");
        brakes(1, 400, 320);
        brakes(0, 400, 319);
        brakes(1, 320, 400);
        brakes(0, 319, 400);
        brakes(1, 0, 0);
        brakes(0, 0, 1);
        brakes(0, 1, 0);
        // 80 hundredths of 999 are 799.2.
        brakes(1, 999, 800);
        brakes(0, 999, 799);
    }

    @Says(promise = 13, value = "(of both BRAKES the lesser one must be 100 less that hundredths of the greater one, or more)")
    void theLeastAndTheMostHundredths() {
        carUnder("d0;");
        brakes(1, 999, 999);
        brakes(0, 999, 998);
        brakes(0, 998, 999);
        carUnder("d99;");
        brakes(1, 500, 5);
        brakes(0, 500, 4);
        brakes(0, 1, 0);
        brakes(1, 0, 0);
        carUnder("b0;");
        brakes(1, 999, 0);
        brakes(1, 0, 999);
    }

    @Says(promise = 13, value = "its BRAKES do (of TRAILERS they aren't asked)")
    void brakesOfTrailersAreNotAsked() {
        garages(1);
        vehicles(0, 1, 2, 3);
        text(0, "b500;d10;");
        for (int kind = 0; kind < 4; kind++) {
            due(kind == 3 ? 1 : 0, verdict(kind, 0, 499, 499), "too weak, kind " + kind);
            due(kind == 3 ? 1 : 0, verdict(kind, 0, 999, 500), "too uneven, kind " + kind);
        }
    }

    @Says(promise = 13, value = "and none of its FAULTS fails.")
    void noneOfItsFaultsFails() {
        garages(1);
        vehicles(0, 1, 2, 3);
        text(0, "f0v;f7c;");
        int[] allowed = {0b11111110, 0b01111110, 0b01111110, 0b11111110};
        for (int kind = 0; kind < 4; kind++) {
            due(1, verdict(kind, allowed[kind], 0, 0), "all that do not fail, kind " + kind);
            due(0, verdict(kind, 255, 0, 0), "all faults, kind " + kind);
            due(0, verdict(kind, 1, 0, 0), "fault 0, kind " + kind);
            due(kind == 1 || kind == 2 ? 0 : 1, verdict(kind, 128, 0, 0), "fault 7, kind " + kind);
        }
    }

    @Says(promise = 13, value = "without one all pass.")
    void withoutATextAllPass() {
        garages(1);
        vehicles(1, 3);
        due(1, verdict(0, 255, 0, 999), "no text at all");
        int early = trial().day(9).faults(255).on(x);
        int late = trial().day(10).faults(255).on(x);
        text(10, "f0v;");
        due(1, x.verdict(early), "the day ahead of the text");
        due(0, x.verdict(late), "the day of the text, told behind the test");
        text(9, "f0r;");
        due(1, x.verdict(late), "a text told later and from an earlier day takes its place");
    }

    @Says(promise = 13, value = "VERDICT: 1 PASS, 0 not. BEYOND.")
    void verdictBeyond() {
        asksOfOneTest("verdict", 1);
    }

    // ---- promise 14: unlike

    @Says(promise = 14, value = "UNLIKE: it PASSED, but VERDICT is not so (1), or the other way (2); 0 else.")
    void unlikeBothWays() {
        garages(1);
        vehicles(1);
        trial().on(x);
        trial().faults(1).on(x);
        trial().failed().on(x);
        trial().failed().faults(1).on(x);
        int[] without = {0, 0, 2, 2};
        for (int i = 0; i < 4; i++) {
            due(without[i], x.unlike(i), "test " + i + " without a text");
        }
        text(0, "f0v;");
        int[] want = {0, 1, 2, 0};
        for (int i = 0; i < 4; i++) {
            due(want[i], x.unlike(i), "test " + i);
        }
    }

    @Says(promise = 14, value = "UNLIKE. BEYOND.")
    void unlikeBeyond() {
        asksOfOneTest("unlike", 0);
    }

    public static void main(String[] args) throws ReflectiveOperationException {
        runAll(TextEdgesTest.class);
    }
}
