/** The document's bounds of what comes if only MINUTES go by (==== 3, promises 15 to 21). */
public final class AheadEdgeTest {
    private static final Check CHECK = new Check("AheadEdgeTest");
    private static final int NONE = Check.NONE;
    private static final int[] FAR = {Integer.MIN_VALUE, Integer.MAX_VALUE};
    private static final Twins BUSY = new Twins(CHECK, Twins::busy);
    private static final String STOVES = "stove 40;stove 10;stove 1;";
    // In its 121st minute it sings its last, and is dry by that; see lastOf120() of AheadTest.
    private static final String SLOW = "tin 5 40 36 0;stove 29;";

    public static void main(String[] args) {
        thenIn1To120();
        thenRefused();
        sungFirst();
        sungNever();
        done0To120();
        doneNever();
        fugueOf1To8();
        soManyOrMore();
        fugueFirst();
        quiet1To120();
        whoOrAnotherOne();
        loudest1To60();
        loudestOfLikeOnes();
        loudestOfWhat();
        dry0To120();
        missing();
        asksChangeNothing();
        farBehind9999();
        CHECK.end();
    }

    /** FILL 5 gets as much HEAT as POWER is; 5 cups of 6 sing, and it stands on the stove of POWER 1 at the end. */
    private static KettleChoir hot(int heat) {
        KettleChoir choir = CHECK.choir("tin 9 6 5 0;" + STOVES);
        CHECK.heat(choir, 0, heat);
        return choir;
    }

    private static void thenIn1To120() {
        CHECK.says("THEN of a KETTLE in so many MINUTES (1 to 120): what it SINGS in it");
        CHECK.same("98, then 99", hot(98).then(0, 1), NONE);
        CHECK.same("99, then 100", hot(99).then(0, 1), 9);
        CHECK.same("98 in 2", hot(98).then(0, 2), 9);
        CHECK.same("1 in 98", hot(1).then(0, 98), NONE);
        CHECK.same("1 in 99", hot(1).then(0, 99), 9);
        KettleChoir slow = CHECK.choir(SLOW);
        slow.put(0, 0);
        CHECK.same("in 120", slow.then(0, 120), 17);
        slow.minutes(1);
        CHECK.same("its last in 120", slow.then(0, 120), 17);
        slow.minutes(1);
        CHECK.same("its last in 119", slow.then(0, 119), 17);
        CHECK.same("none behind it in 120", slow.then(0, 120), NONE);
    }

    private static void thenRefused() {
        CHECK.says("IllegalArgumentException (behind NoSuchElementException): not 1 to 120.");
        for (int wrong : new int[] {-1, 0, 121, 122, FAR[0], FAR[1]}) {
            BUSY.unchanged("then(0, " + wrong + ")", choir -> CHECK.illegal("then", () -> choir.then(0, wrong)));
            for (int kettle : new int[] {-1, 3, 8, FAR[0], FAR[1]}) {
                KettleChoir choir = Twins.busy();
                CHECK.missing("then(" + kettle + ", " + wrong + ")", () -> choir.then(kettle, wrong));
                CHECK.missing("then(" + kettle + ", 1)", () -> choir.then(kettle, 1));
            }
        }
    }

    /** One on a stove gets 1 at least: it sings within 100 MINUTES, or never. */
    private static void sungFirst() {
        CHECK.says("SUNG: in which MINUTE (1 to 120) it sings first; none");
        CHECK.same("from 99", hot(99).sung(0), 1);
        CHECK.same("from 98", hot(98).sung(0), 2);
        CHECK.same("from 1", hot(1).sung(0), 99);
        KettleChoir cold = CHECK.choir("tin 9 6 5 0;stove 1;");
        cold.put(0, 0);
        CHECK.same("from 0", cold.sung(0), 100);
        KettleChoir sings = hot(99);
        sings.minutes(1);
        CHECK.same("it sings, and will", sings.sung(0), 1);
        CHECK.same("the first one counts from the next", sings.count(4), 1);
    }

    private static void sungNever() {
        CHECK.says("SUNG; NONE: none");
        int[][] due = {{102, 1}, {101, NONE}, {100, NONE}};
        for (int[] each : due) {
            KettleChoir choir = CHECK.choir("tin 9 5 5 0;" + STOVES);
            CHECK.heat(choir, 0, each[0]);
            choir.pour(0, 4);
            choir.lift(0);
            CHECK.same("lifted off at " + each[0], choir.sung(0), each[1]);
        }
        for (String kettle : new String[] {"tin 9 6 0 0;", "tin 9 6 6 0;", "tin 9 6 5 9;", "tin 9 1 1 0;"}) {
            KettleChoir choir = CHECK.choir(kettle + "stove 40;");
            choir.put(0, 0);
            CHECK.same("never: " + kettle, choir.sung(0), NONE);
        }
        KettleChoir lifted = CHECK.choir("tin 9 6 5 0;stove 1;lifts 98<heat;");
        lifted.put(0, 0);
        CHECK.same("the cook lifts it off at 99", lifted.sung(0), NONE);
        KettleChoir later = CHECK.choir("tin 9 6 5 0;stove 1;lifts 99<heat;");
        later.put(0, 0);
        CHECK.same("the cook lifts it off at 100, behind its song", later.sung(0), 100);
    }

    private static void done0To120() {
        CHECK.says("DONE: in which a DISH is READY (0: it is); none");
        KettleChoir choir = CHECK.choir("tin 7 35 31 0;tin 9 39 35 0;stove 11;stove 7;dish 24;dish 4;");
        choir.put(0, 0);
        choir.put(1, 1);
        CHECK.same("in 121", choir.done(1), NONE);
        choir.minutes(1);
        CHECK.same("in 120", choir.done(1), 120);
        choir.minutes(1);
        CHECK.same("in 119", choir.done(1), 119);
        for (int m = 0; m < 118; m++) {
            choir.minutes(1);
            CHECK.same("it isn't ready", choir.dish(1, -2), NONE);
        }
        CHECK.same("in 1", choir.done(1), 1);
        choir.minutes(1);
        CHECK.same("ready", choir.dish(1, -2), 120);
        CHECK.same("it is", choir.done(1), 0);
        CHECK.same("the other one isn't", choir.done(0), NONE);
    }

    private static void doneNever() {
        CHECK.says("DONE (1 to 120); NONE: none.");
        KettleChoir choir = CHECK.choir("tin 9 4 1 0;tin 12 4 1 0;stove 30;stove 30;dish 2;dish 3;dish 4;dish 24;dish 3 4;");
        choir.put(0, 0);
        choir.put(1, 1);
        int[] due = {NONE, 2, NONE, NONE, NONE};
        for (int d = 0; d < 5; d++) {
            CHECK.same("done(" + d + ")", choir.done(d), due[d]);
        }
        choir.minutes(2);
        choir.lift(0);
        choir.lift(1);
        CHECK.same("ready, though nobody will sing", choir.done(1), 0);
    }

    private static KettleChoir eight(int many) {
        StringBuilder text = new StringBuilder("stove 40;stove 40;stove 40;stove 40;");
        for (int k = 0; k < 8; k++) {
            text.append("enamel 9 20 5 ").append(k < many ? 0 : 9).append(";");
        }
        KettleChoir choir = CHECK.choir(text.toString());
        for (int k = 0; k < 8; k++) {
            choir.lift((k + 4) % 8);
            choir.put(k, k % 4);
            if (k == 3) {
                choir.minutes(4);
            }
        }
        // The first four sing on at 150 and less, the others in the third minute from now.
        return choir;
    }

    private static void fugueOf1To8() {
        CHECK.says("so many (1 to 8) or more SING at once; none .. IllegalArgumentException: not 1 to 8.");
        for (int wrong : new int[] {-1, 0, 9, 10, FAR[0], FAR[1]}) {
            BUSY.unchanged("fugue(" + wrong + ")", choir -> CHECK.illegal("fugue", () -> choir.fugue(wrong)));
        }
        KettleChoir all = eight(8);
        KettleChoir seven = eight(7);
        for (int many = 1; many <= 8; many++) {
            CHECK.same("fugue(" + many + ") of eight", all.fugue(many), many <= 4 ? 1 : 3);
            CHECK.same("fugue(" + many + ") of seven", seven.fugue(many), many <= 4 ? 1 : many == 8 ? NONE : 3);
        }
        KettleChoir none = new KettleChoir();
        for (int many = 1; many <= 8; many++) {
            CHECK.same("fugue(" + many + ") of nobody", none.fugue(many), NONE);
        }
    }

    private static void soManyOrMore() {
        CHECK.says("so many (1 to 8) or more SING at once");
        KettleChoir choir = CHECK.choir("tin 9 4 1 0;".repeat(3) + "stove 30;".repeat(3));
        for (int k = 0; k < 3; k++) {
            choir.put(k, k);
        }
        for (int many = 1; many <= 3; many++) {
            CHECK.same("fugue(" + many + ") of three that begin at once", choir.fugue(many), 2);
        }
        CHECK.same("fugue(4)", choir.fugue(4), NONE);
        // One sings in the minutes 2 to 4, another one from the 5th on: never two at once.
        KettleChoir apart = CHECK.choir("tin 5 20 1 0;tin 5 20 5 0;stove 40;stove 20;");
        apart.put(0, 0);
        apart.put(1, 1);
        CHECK.same("one", apart.fugue(1), 2);
        CHECK.same("two, one behind the other", apart.fugue(2), NONE);
    }

    private static void fugueFirst() {
        CHECK.says("A FUGUE (1 to 120); NONE: none.");
        CHECK.same("from 99", hot(99).fugue(1), 1);
        KettleChoir slow = CHECK.choir("tin 9 6 5 0;tin 9 6 5 0;stove 1;stove 1;");
        slow.put(0, 0);
        CHECK.same("one in 100", slow.fugue(1), 100);
        CHECK.same("two", slow.fugue(2), NONE);
        slow.put(1, 1);
        CHECK.same("two in 100", slow.fugue(2), 100);
    }

    private static void quiet1To120() {
        CHECK.says("QUIET (1 to 120; of the first one the MINUTE ahead counts as it was); NONE: none.");
        KettleChoir slow = CHECK.choir(SLOW);
        slow.put(0, 0);
        slow.minutes(1);
        CHECK.same("in 121", slow.quiet(), NONE);
        slow.minutes(1);
        CHECK.same("in 120", slow.quiet(), 120);
        slow.minutes(1);
        CHECK.same("in 119", slow.quiet(), 119);
        KettleChoir choir = hot(99);
        choir.minutes(1);
        choir.lift(0);
        CHECK.same("at once", choir.quiet(), 1);
        choir.minutes(1);
        CHECK.same("it is quiet already", choir.quiet(), NONE);
        choir.undo();
        CHECK.same("the minute undone", choir.quiet(), 1);
        choir.undo();
        choir.undo();
        choir.lift(0);
        CHECK.same("nobody sang in the minute ahead", choir.quiet(), NONE);
        CHECK.same("without kettles", new KettleChoir().quiet(), NONE);
    }

    /** The first one sings in the minutes 2 to 4, the other one from the 5th, or the 6th, to the 19th. */
    private static void whoOrAnotherOne() {
        CHECK.says("QUIET: in which first nobody SINGS any more who, or another one, did in the one ahead; none");
        KettleChoir choir = CHECK.choir("tin 5 20 1 0;tin 5 20 5 0;stove 40;stove 20;stove 19;");
        choir.put(0, 0);
        choir.put(1, 1);
        CHECK.same("the last of the first one", choir.then(0, 4), 13);
        CHECK.same("the first one is dry", choir.then(0, 5), NONE);
        CHECK.same("the first of the other one", choir.then(1, 5), 8);
        CHECK.same("another one sings on", choir.quiet(), 20);
        choir.put(1, 2);
        CHECK.same("another one sings a minute later", choir.quiet(), 5);
        CHECK.same("namely then", choir.sung(1), 6);
    }

    private static void loudest1To60() {
        CHECK.says("THE LOUDEST MINUTE (1 to 60, if only MINUTES go by)");
        int[][] due = {{38, NONE}, {39, NONE}, {40, 60}, {41, 59}, {98, 2}, {99, 1}};
        for (int[] each : due) {
            KettleChoir choir = hot(each[0]);
            CHECK.same("loudest(0) from heat " + each[0], choir.loudest(0), each[1]);
            CHECK.same("loudest(1) from heat " + each[0], choir.loudest(1), each[1] == NONE ? 0 : 1);
        }
    }

    private static void loudestOfLikeOnes() {
        CHECK.says("in which most SING (of like ones the first; what 0; NONE: nobody ever), how many (1; 0: nobody)");
        KettleChoir choir = CHECK.choir("tin 5 20 1 0;tin 5 20 5 0;tin 5 20 5 0;stove 40;stove 20;stove 20;");
        choir.put(0, 0);
        CHECK.same("one: the first", choir.loudest(0), 2);
        CHECK.same("one: how many", choir.loudest(1), 1);
        choir.put(1, 1);
        CHECK.same("one, then another one: the first", choir.loudest(0), 2);
        CHECK.same("one, then another one: how many", choir.loudest(1), 1);
        choir.put(2, 2);
        CHECK.same("one, then two: the first of those", choir.loudest(0), 5);
        CHECK.same("one, then two: how many", choir.loudest(1), 2);
        KettleChoir all = eight(8);
        CHECK.same("eight: when", all.loudest(0), 3);
        CHECK.same("eight: how many", all.loudest(1), 8);
    }

    private static void loudestOfWhat() {
        CHECK.says("NoSuchElementException: another what.");
        for (int wrong : new int[] {-1, 2, 3, FAR[0], FAR[1]}) {
            BUSY.unchanged("loudest(" + wrong + ")", choir -> CHECK.missing("loudest", () -> choir.loudest(wrong)));
        }
    }

    private static void dry0To120() {
        CHECK.says("DRY (1 to 120; 0: it is); NONE: none.");
        KettleChoir slow = CHECK.choir(SLOW);
        slow.put(0, 0);
        CHECK.same("in 121", slow.dry(0), NONE);
        slow.minutes(1);
        CHECK.same("in 120", slow.dry(0), 120);
        slow.minutes(1);
        CHECK.same("in 119", slow.dry(0), 119);
        KettleChoir one = CHECK.choir("tin 5 20 1 0;stove 40;");
        one.put(0, 0);
        CHECK.same("in 4", one.dry(0), 4);
        one.minutes(3);
        CHECK.same("in 1", one.dry(0), 1);
        one.minutes(1);
        CHECK.same("it is", one.dry(0), 0);
        CHECK.same("its fill", one.kettle(0, 3), 0);
        KettleChoir told = CHECK.choir("tin 5 20 0 0;tin 5 20 1 0;");
        CHECK.same("told so", told.dry(0), 0);
        CHECK.same("a cold cup stays", told.dry(1), NONE);
        told.pour(1, 0);
        CHECK.same("poured so", told.dry(1), 0);
        told.pour(0, 1);
        CHECK.same("filled", told.dry(0), NONE);
    }

    private static void missing() {
        CHECK.says("no such KETTLE (as everywhere) .. no such DISH (as everywhere)");
        for (int wrong : new int[] {-1, 3, 8, FAR[0], FAR[1]}) {
            BUSY.unchanged("sung(" + wrong + ")", choir -> CHECK.missing("sung", () -> choir.sung(wrong)));
            BUSY.unchanged("dry(" + wrong + ")", choir -> CHECK.missing("dry", () -> choir.dry(wrong)));
        }
        for (int wrong : new int[] {-1, 2, 5, FAR[0], FAR[1]}) {
            BUSY.unchanged("done(" + wrong + ")", choir -> CHECK.missing("done", () -> choir.done(wrong)));
        }
    }

    private static void asksChangeNothing() {
        CHECK.says("(If only MINUTES go by, from now on, the first one being the next one, 1:)");
        BUSY.unchanged("asking ahead", choir -> {
            choir.then(0, 120);
            choir.sung(2);
            choir.done(1);
            choir.fugue(8);
            choir.quiet();
            choir.loudest(0);
            choir.dry(2);
        });
    }

    /** MINUTES that only would go by are none that are refused. */
    private static void farBehind9999() {
        CHECK.says("(If only MINUTES go by, from now on, the first one being the next one, 1:)");
        KettleChoir choir = CHECK.choir("tin 9 6 5 0;stove 1;");
        for (int i = 0; i < 333; i++) {
            choir.minutes(30);
        }
        choir.minutes(9);
        CHECK.same("the minute", choir.count(3), 9999);
        choir.put(0, 0);
        CHECK.same("what would be sung first", choir.sung(0), 100);
        // Its cups go in the MINUTES 10098, 10101 .. 10110, the last one being the 112th from now on.
        CHECK.same("what would be sung with the last cup", choir.then(0, 112), 9 + 1 + 1);
        CHECK.same("when it would be dry", choir.dry(0), 112);
        CHECK.same("when it would be quiet", choir.quiet(), 113);
    }
}
