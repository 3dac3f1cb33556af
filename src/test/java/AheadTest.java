/** Promises 15 to 21: then, sung, done, fugue, quiet, loudest, dry. */
public final class AheadTest {
    private static final Check CHECK = new Check("AheadTest");
    private static final int NONE = Check.NONE;
    private static final String ONE = "tin 5 20 5 0;stove 10;";

    public static void main(String[] args) {
        askedWrongly();
        one();
        theCookDoesAsEver();
        nothingChanges();
        done();
        several();
        farMinutes();
        lastOf120();
        doneInTheLastOf120();
        quietFromTheMinuteAhead();
        CHECK.end();
    }

    private static void askedWrongly() {
        KettleChoir choir = CHECK.choir("tin 5 20 5 0;stove 10;dish 3;");
        for (int wrong : new int[] {-1, 1, Integer.MAX_VALUE, Integer.MIN_VALUE}) {
            CHECK.missing("then of kettle " + wrong, () -> choir.then(wrong, 1));
            CHECK.missing("then of kettle " + wrong + " ahead of the minutes", () -> choir.then(wrong, 0));
            CHECK.missing("sung of kettle " + wrong, () -> choir.sung(wrong));
            CHECK.missing("dry of kettle " + wrong, () -> choir.dry(wrong));
            CHECK.missing("done of dish " + wrong, () -> choir.done(wrong));
        }
        for (int wrong : new int[] {0, -1, 121, Integer.MAX_VALUE, Integer.MIN_VALUE}) {
            CHECK.illegal("then in " + wrong, () -> choir.then(0, wrong));
        }
        for (int wrong : new int[] {0, -1, 9, Integer.MAX_VALUE, Integer.MIN_VALUE}) {
            CHECK.illegal("fugue of " + wrong, () -> choir.fugue(wrong));
        }
        for (int wrong : new int[] {-1, 2, Integer.MAX_VALUE, Integer.MIN_VALUE}) {
            CHECK.missing("loudest(" + wrong + ")", () -> choir.loudest(wrong));
        }
    }

    /** It sings from the 10th minute to the 22nd, in which its last cup goes; see StateTest. */
    private static void one() {
        KettleChoir choir = CHECK.choir(ONE);
        CHECK.same("sung off the stove", choir.sung(0), NONE);
        CHECK.same("fugue off the stove", choir.fugue(1), NONE);
        CHECK.same("quiet off the stove", choir.quiet(), NONE);
        CHECK.same("loudest(0) off the stove", choir.loudest(0), NONE);
        CHECK.same("loudest(1) off the stove", choir.loudest(1), 0);
        CHECK.same("dry off the stove", choir.dry(0), NONE);
        choir.put(0, 0);
        int[] due = {NONE, 8, 9, 10, 11, 12, 13};
        for (int m = 9; m <= 15; m++) {
            CHECK.same("then(0, " + m + ")", choir.then(0, m), due[m - 9]);
        }
        CHECK.same("then(0, 1)", choir.then(0, 1), NONE);
        CHECK.same("then(0, 22)", choir.then(0, 22), 13);
        CHECK.same("then(0, 23)", choir.then(0, 23), NONE);
        CHECK.same("then(0, 120)", choir.then(0, 120), NONE);
        CHECK.same("sung(0)", choir.sung(0), 10);
        CHECK.same("fugue(1)", choir.fugue(1), 10);
        CHECK.same("fugue(2)", choir.fugue(2), NONE);
        CHECK.same("fugue(8)", choir.fugue(8), NONE);
        CHECK.same("quiet()", choir.quiet(), 23);
        CHECK.same("loudest(0)", choir.loudest(0), 10);
        CHECK.same("loudest(1)", choir.loudest(1), 1);
        CHECK.same("dry(0)", choir.dry(0), 22);
        choir.minutes(12);
        CHECK.same("then(0, 1) from minute 12 on", choir.then(0, 1), 11);
        CHECK.same("sung(0) from minute 12 on", choir.sung(0), 1);
        CHECK.same("dry(0) from minute 12 on", choir.dry(0), 10);
        CHECK.same("quiet() from minute 12 on", choir.quiet(), 11);
        choir.minutes(10);
        CHECK.same("dry(0): it is", choir.dry(0), 0);
        CHECK.same("quiet() behind the last song", choir.quiet(), 1);
        CHECK.same("sung(0) never more", choir.sung(0), NONE);
        choir.minutes(1);
        CHECK.same("quiet() when it is quiet", choir.quiet(), NONE);
    }

    /** It is lifted off in the 11th minute at HEAT 111, and cools to 101 in the 16th. */
    private static void theCookDoesAsEver() {
        KettleChoir choir = CHECK.choir(ONE + "lifts 1<sung;");
        choir.put(0, 0);
        int[] due = {NONE, 8, 9, 8, 8, 8, 8, 8, NONE};
        for (int m = 9; m <= 17; m++) {
            CHECK.same("then(0, " + m + ")", choir.then(0, m), due[m - 9]);
        }
        CHECK.same("sung(0)", choir.sung(0), 10);
        CHECK.same("quiet()", choir.quiet(), 17);
        CHECK.same("dry(0)", choir.dry(0), NONE);
    }

    private static void nothingChanges() {
        KettleChoir choir = CHECK.choir(ONE + "dish 3;");
        choir.put(0, 0);
        choir.minutes(11);
        choir.then(0, 120);
        choir.sung(0);
        choir.done(0);
        choir.fugue(2);
        choir.quiet();
        choir.loudest(0);
        choir.dry(0);
        int[] due = {0, 5, 20, 4, 0, 111, 0, 2, 9};
        for (int what = 0; what < due.length; what++) {
            CHECK.same("kettle(0, " + what + ")", choir.kettle(0, what), due[what]);
        }
        CHECK.same("the minute", choir.count(3), 11);
        CHECK.same("acts", choir.count(9), 2);
        CHECK.same("status", choir.count(13), 0);
    }

    private static void done() {
        KettleChoir choir = CHECK.choir("tin 5 20 5 0;tin 8 20 5 0;stove 10;stove 10;dish 3;dish 4;");
        CHECK.same("done off the stoves", choir.done(0), NONE);
        choir.put(0, 0);
        choir.put(1, 1);
        CHECK.same("done(0)", choir.done(0), 10);
        CHECK.same("done(1)", choir.done(1), NONE);
        choir.minutes(9);
        CHECK.same("done(0) in one minute", choir.done(0), 1);
        choir.minutes(1);
        CHECK.same("done(0): it is", choir.done(0), 0);
        choir.lift(0);
        CHECK.same("done(0): it stays so", choir.done(0), 0);
    }

    /** The one of power 40 sings from the 3rd minute to the 16th, that of 10 from the 10th to the 22nd. */
    private static void several() {
        KettleChoir choir = CHECK.choir("tin 5 20 5 0;tin 8 20 5 0;tin 1 20 20 0;stove 10;stove 40;stove 40;");
        choir.put(0, 0);
        choir.put(1, 1);
        choir.put(2, 2);
        CHECK.same("sung(1)", choir.sung(1), 3);
        CHECK.same("then(1, 3)", choir.then(1, 3), 8 + 3 + 2);
        CHECK.same("sung(2)", choir.sung(2), NONE);
        CHECK.same("dry(1)", choir.dry(1), 16);
        CHECK.same("fugue(1)", choir.fugue(1), 3);
        CHECK.same("fugue(2)", choir.fugue(2), 10);
        CHECK.same("fugue(3)", choir.fugue(3), NONE);
        CHECK.same("loudest(0)", choir.loudest(0), 10);
        CHECK.same("loudest(1)", choir.loudest(1), 2);
        CHECK.same("quiet()", choir.quiet(), 23);
        choir.lift(0);
        CHECK.same("quiet() of one", choir.quiet(), 17);
    }

    /** Iron with 38 cups of 40 never sings; with 36 by POWER 5: HEAT 1 more each minute, the 100th sings. */
    private static void farMinutes() {
        KettleChoir choir = CHECK.choir("iron 5 40 36 0;iron 8 40 36 0;stove 5;stove 5;dish 3;");
        choir.put(0, 0);
        choir.put(1, 1);
        CHECK.same("sung(0)", choir.sung(0), 100);
        CHECK.same("done(0)", choir.done(0), 100);
        CHECK.same("fugue(2)", choir.fugue(2), 100);
        CHECK.same("loudest(0) is of 60", choir.loudest(0), NONE);
        CHECK.same("loudest(1) is of 60", choir.loudest(1), 0);
        CHECK.same("then(0, 99)", choir.then(0, 99), NONE);
        CHECK.same("then(0, 100)", choir.then(0, 100), 5);
        choir.minutes(30);
        choir.minutes(9);
        CHECK.same("loudest(0) in 61", choir.loudest(0), NONE);
        choir.minutes(1);
        CHECK.same("loudest(0) in 60", choir.loudest(0), 60);
        KettleChoir cold = CHECK.choir("enamel 5 40 30 0;stove 40;stove 1;");
        cold.put(0, 1);
        cold.minutes(30);
        cold.lift(0);
        cold.minutes(30);
        cold.minutes(30);
        cold.put(0, 1);
        CHECK.same("sung(0) in 100", cold.sung(0), 100);
        KettleChoir late = CHECK.choir("iron 5 40 36 0;stove 5;");
        late.put(0, 0);
        CHECK.same("then(0, 120)", late.then(0, 120), 5 + 2 + 2);
        CHECK.same("dry(0) not within 120", late.dry(0), NONE);
        CHECK.same("quiet() not within 120", late.quiet(), NONE);
    }

    /** It sings in the 15th minute, HEAT 105; 36 cups go in the minutes 15, 18 .. 120, which is the 121st from now. */
    private static void lastOf120() {
        KettleChoir choir = CHECK.choir("tin 5 9 0 0;tin 5 40 36 0;stove 29;");
        choir.put(1, 0);
        CHECK.same("sung(1)", choir.sung(1), 15);
        CHECK.same("dry(1) in 121", choir.dry(1), NONE);
        CHECK.same("then(1, 120)", choir.then(1, 120), 5 + 7 + 5);
        choir.minutes(1);
        CHECK.same("dry(1) in 120", choir.dry(1), 120);
        CHECK.same("quiet() in 121", choir.quiet(), NONE);
        choir.minutes(1);
        CHECK.same("dry(1) in 119", choir.dry(1), 119);
        CHECK.same("quiet() in 120", choir.quiet(), 120);
        CHECK.same("then(1, 119)", choir.then(1, 119), 5 + 7 + 5);
        CHECK.same("then(1, 120) of a dry one", choir.then(1, 120), NONE);
        CHECK.same("dry(0): it is", choir.dry(0), 0);
    }

    /** The second dish is ready in the 121st minute, as the minutes show that go by then. */
    private static void doneInTheLastOf120() {
        KettleChoir choir = CHECK.choir("tin 7 35 31 0;tin 9 39 35 0;stove 11;stove 7;dish 24;dish 4;");
        choir.put(0, 0);
        choir.put(1, 1);
        CHECK.same("done(1) in 121", choir.done(1), NONE);
        choir.minutes(1);
        CHECK.same("done(1) in 120", choir.done(1), 120);
        CHECK.same("done(0)", choir.done(0), NONE);
        for (int m = 2; m <= 120; m++) {
            choir.minutes(1);
        }
        CHECK.same("no dish is ready", choir.count(5), 0);
        CHECK.same("done(1) in one", choir.done(1), 1);
        choir.minutes(1);
        CHECK.same("the second is ready", choir.count(5), 2);
        CHECK.same("since", choir.dish(1, -2), 120);
        CHECK.same("done(1): it is", choir.done(1), 0);
        CHECK.same("done(0): it isn't", choir.done(0), NONE);
    }

    private static void quietFromTheMinuteAhead() {
        KettleChoir choir = CHECK.choir("tin 5 20 5 0;tin 5 20 5 0;stove 10;stove 40;");
        choir.put(0, 0);
        choir.minutes(10);
        choir.pour(0, 20);
        CHECK.same("who sang in the minute ahead", choir.count(4), 1);
        CHECK.same("quiet() at once", choir.quiet(), 1);
        choir.undo();
        choir.lift(0);
        CHECK.same("quiet() of 100 less 2", choir.quiet(), 1);
        choir.put(1, 1);
        choir.minutes(2);
        CHECK.same("quiet() behind another one's song", choir.quiet(), 14);
    }
}
