/** Promises 5 to 8, and what a MINUTE does: count, kettle, stove, dish. */
public final class StateTest {
    private static final Check CHECK = new Check("StateTest");
    private static final int NONE = Check.NONE;

    public static void main(String[] args) {
        askedWrongly();
        asTold();
        heating();
        cooling();
        singing();
        whoDoesNotSing();
        boilingAway();
        dishes();
        dishOfThreeSteps();
        lidsAndTaken();
        thirds();
        CHECK.end();
    }

    private static void askedWrongly() {
        KettleChoir choir = CHECK.choir("tin 5 20 5 0;stove 10;dish 3 4;");
        for (int wrong : new int[] {-1, 15, Integer.MIN_VALUE, Integer.MAX_VALUE}) {
            CHECK.missing("count(" + wrong + ")", () -> choir.count(wrong));
        }
        for (int wrong : new int[] {-1, 1, 8, Integer.MIN_VALUE, Integer.MAX_VALUE}) {
            CHECK.missing("kettle " + wrong, () -> choir.kettle(wrong, 0));
            CHECK.missing("stove " + wrong, () -> choir.stove(wrong, 0));
            CHECK.missing("dish " + wrong, () -> choir.dish(wrong, -1));
        }
        for (int wrong : new int[] {-1, 9, Integer.MIN_VALUE, Integer.MAX_VALUE}) {
            CHECK.missing("kettle(0, " + wrong + ")", () -> choir.kettle(0, wrong));
            CHECK.missing("stove(0, " + wrong + ")", () -> choir.stove(0, wrong));
        }
        CHECK.missing("stove(0, 2)", () -> choir.stove(0, 2));
        for (int wrong : new int[] {-3, 2, Integer.MIN_VALUE, Integer.MAX_VALUE}) {
            CHECK.missing("dish(0, " + wrong + ")", () -> choir.dish(0, wrong));
        }
    }

    private static void asTold() {
        KettleChoir choir = CHECK.choir("tin 5 20 5 0;dish 3 24 1;copper 1 40 40 9;stove 10;iron 24 1 0 8;dish 7;"
                + "enamel 2 3 1 2;stove 40;lifts 0;");
        int[][] kettles = {{0, 5, 20, 5, 0}, {1, 1, 40, 40, 9}, {2, 24, 1, 0, 8}, {3, 2, 3, 1, 2}};
        for (int k = 0; k < 4; k++) {
            int[] due = {kettles[k][0], kettles[k][1], kettles[k][2], kettles[k][3], kettles[k][4], 0, NONE, 0, NONE};
            for (int what = 0; what < due.length; what++) {
                CHECK.same("kettle(" + k + ", " + what + ")", choir.kettle(k, what), due[what]);
            }
        }
        CHECK.same("kettles", choir.count(0), 4);
        CHECK.same("stoves", choir.count(1), 2);
        CHECK.same("dishes", choir.count(2), 2);
        CHECK.same("the power of stove 0", choir.stove(0, 0), 10);
        CHECK.same("the power of stove 1", choir.stove(1, 0), 40);
        CHECK.same("the kettle on stove 1", choir.stove(1, 1), NONE);
        int[] dish = {NONE, 3, 3, 24, 1};
        for (int i = -2; i <= 2; i++) {
            CHECK.same("dish(0, " + i + ")", choir.dish(0, i), dish[i + 2]);
        }
        CHECK.same("dish(1, -1)", choir.dish(1, -1), 1);
        CHECK.same("dish(1, 0)", choir.dish(1, 0), 7);
        CHECK.missing("dish(1, 1)", () -> choir.dish(1, 1));
        choir.put(2, 1);
        CHECK.same("the kettle on stove 1 then", choir.stove(1, 1), 2);
        CHECK.same("the stove of kettle 2", choir.kettle(2, 6), 1);
    }

    /** 10 by POWER by FILL and 5 (iron 10), 1 at least, up to 150. */
    private static void heating() {
        KettleChoir choir = CHECK.choir("tin 5 20 8 0;copper 5 20 8 0;iron 5 20 8 0;enamel 5 20 8 0;"
                + "stove 7;stove 7;stove 7;stove 7;");
        for (int k = 0; k < 4; k++) {
            choir.put(k, k);
        }
        choir.minutes(1);
        int[] due = {5, 5, 3, 5};
        for (int k = 0; k < 4; k++) {
            CHECK.same("the heat of kettle " + k, choir.kettle(k, 5), due[k]);
        }
        choir.minutes(19);
        CHECK.same("the heat of tin in 20 minutes", choir.kettle(0, 5), 100);
        CHECK.same("the heat of iron in 20 minutes", choir.kettle(2, 5), 60);
        KettleChoir slow = CHECK.choir("iron 5 40 40 0;tin 5 40 0 0;stove 1;stove 1;");
        slow.put(0, 0);
        slow.put(1, 1);
        slow.minutes(3);
        CHECK.same("the heat is 1 more at least", slow.kettle(0, 5), 3);
        CHECK.same("the heat of an empty one", slow.kettle(1, 5), 6);
        KettleChoir hot = CHECK.choir("tin 5 40 40 0;stove 40;");
        hot.put(0, 0);
        hot.minutes(18);
        CHECK.same("the heat in 18 minutes", hot.kettle(0, 5), 144);
        hot.minutes(1);
        CHECK.same("the heat up to 150", hot.kettle(0, 5), 150);
    }

    private static void cooling() {
        KettleChoir choir = CHECK.choir("tin 5 20 15 0;copper 5 20 15 0;iron 5 20 15 0;enamel 5 20 15 0;"
                + "stove 10;stove 10;stove 10;stove 10;");
        for (int k = 0; k < 4; k++) {
            choir.put(k, k);
        }
        choir.minutes(1);
        for (int k = 0; k < 4; k++) {
            choir.lift(k);
        }
        int[][] due = {{5, 5, 4, 5}, {3, 3, 2, 4}, {1, 1, 0, 3}, {0, 0, 0, 2}, {0, 0, 0, 1}, {0, 0, 0, 0}};
        for (int m = 0; m < due.length; m++) {
            for (int k = 0; k < 4; k++) {
                CHECK.same("the heat of kettle " + k + " in " + m + " minutes", choir.kettle(k, 5), due[m][k]);
            }
            choir.minutes(1);
        }
    }

    /** SPOUT, a fifth of SIZE less FILL, a tenth of HEAT above 100, less a third of CHALK, less 1 for copper. */
    private static void singing() {
        KettleChoir choir = CHECK.choir("tin 5 20 5 0;stove 10;");
        choir.put(0, 0);
        int[] notes = {NONE, NONE, NONE, NONE, NONE, NONE, NONE, NONE, NONE, 8, 9, 10, 11, 12, 13, 13, 13, 13, 13, 13, 13,
            13, NONE, NONE};
        int sung = 0;
        for (int m = 0; m < notes.length; m++) {
            choir.minutes(1);
            sung += notes[m] == NONE ? 0 : 1;
            CHECK.same("the note in minute " + m, choir.kettle(0, 8), notes[m]);
            CHECK.same("who sang in minute " + m, choir.count(4), notes[m] == NONE ? 0 : 1);
            CHECK.same("minutes sung up to minute " + m, choir.kettle(0, 7), sung);
            CHECK.same("the minute", choir.count(3), m + 1);
        }
        // HEAT 132 in the second minute, when FILL is still 1.
        note("tin 9 40 1 0", 9 + 7 + 3);
        note("copper 9 40 1 0", 9 + 7 + 3 - 1);
        note("tin 9 40 1 2", 9 + 7 + 3);
        note("tin 9 40 1 3", 9 + 7 + 3 - 1);
        note("tin 9 40 1 8", 9 + 7 + 3 - 2);
        note("enamel 24 40 1 0", 24 + 7 + 3);
        note("tin 9 5 1 0", 9 + 3);
        note("tin 9 6 1 0", 9 + 1 + 3);
        KettleChoir low = CHECK.choir("copper 1 5 4 8;tin 1 5 4 8;stove 18;stove 18;");
        low.put(0, 0);
        low.put(1, 1);
        low.minutes(5);
        CHECK.same("a note kept to 0", low.kettle(0, 8), 0);
        CHECK.same("another one kept to 0", low.kettle(1, 8), 0);
        CHECK.same("both sing", low.count(4), 3);
        CHECK.same("and have sung once", low.kettle(0, 7), 1);
    }

    private static void note(String kettle, int due) {
        KettleChoir choir = CHECK.choir(kettle + ";stove 40;");
        choir.put(0, 0);
        choir.minutes(2);
        CHECK.same("the note of " + kettle, choir.kettle(0, 8), due);
    }

    private static void whoDoesNotSing() {
        sings("tin 5 10 9 0", true);
        sings("tin 5 10 10 0", false);
        sings("tin 5 11 9 0", true);
        sings("tin 5 11 10 0", false);
        sings("tin 5 20 18 0", true);
        sings("tin 5 20 19 0", false);
        sings("tin 5 1 1 0", false);
        sings("tin 5 2 1 0", true);
        sings("tin 5 20 0 0", false);
        sings("tin 5 20 1 0", true);
        sings("tin 5 20 5 8", true);
        sings("tin 5 20 5 9", false);
    }

    private static void sings(String kettle, boolean due) {
        KettleChoir choir = CHECK.choir(kettle + ";stove 40;");
        choir.put(0, 0);
        boolean sang = false;
        for (int m = 0; m < 12; m++) {
            choir.minutes(1);
            boolean sings = choir.kettle(0, 8) != NONE;
            CHECK.holds("only what is hot sings: " + kettle, !sings || choir.kettle(0, 5) >= 100);
            sang |= sings;
        }
        CHECK.same("whether it sings: " + kettle, sang, due);
    }

    /** In the minutes 0, 3, 6 .. who sings loses a cup; CHALK is 1 more by the last. */
    private static void boilingAway() {
        KettleChoir choir = CHECK.choir("tin 5 20 5 0;tin 5 20 5 7;stove 10;stove 40;");
        choir.put(0, 0);
        int[] fills = {5, 5, 5, 5, 5, 5, 5, 5, 5, 4, 4, 4, 3, 3, 3, 2, 2, 2, 1, 1, 1, 0, 0, 0, 0};
        for (int m = 0; m < fills.length; m++) {
            choir.minutes(1);
            CHECK.same("the fill behind minute " + m, choir.kettle(0, 3), fills[m]);
            CHECK.same("the chalk behind minute " + m, choir.kettle(0, 4), fills[m] == 0 ? 1 : 0);
        }
        CHECK.same("who doesn't sing keeps its cups", choir.kettle(1, 3), 5);
        choir.put(1, 1);
        choir.minutes(17);
        CHECK.same("the other one's minutes", choir.kettle(1, 7), 13);
        CHECK.same("the other one's cups", choir.kettle(1, 3), 0);
        CHECK.same("the other one's chalk", choir.kettle(1, 4), 8);
        CHECK.same("the first one's minutes", choir.kettle(0, 7), 13);
        KettleChoir last = CHECK.choir("tin 5 20 1 8;stove 40;");
        last.put(0, 0);
        last.minutes(4);
        CHECK.same("chalk to 9", last.kettle(0, 4), 9);
        CHECK.same("dry", last.kettle(0, 3), 0);
        last.pour(0, 1);
        last.minutes(2);
        CHECK.same("chalk 9 doesn't sing", last.count(4), 0);
        CHECK.same("though it is hot", last.kettle(0, 5), 132);
    }

    /** Notes 8 + 0 and 8 + 3 from HEAT 100 on, in the 10th minute, MINUTE 9. */
    private static void dishes() {
        KettleChoir choir = CHECK.choir("tin 8 20 20 0;tin 5 20 5 0;tin 8 20 5 0;stove 10;stove 10;"
                + "dish 3;dish 4;dish 3 6;dish 1;");
        choir.put(1, 0);
        choir.put(2, 1);
        choir.minutes(9);
        CHECK.same("no dish is ready", choir.count(5), 0);
        choir.minutes(1);
        CHECK.same("dish 0 is ready", choir.count(5), 1);
        CHECK.same("since minute 9", choir.dish(0, -2), 9);
        CHECK.same("dish 1 isn't", choir.dish(1, -2), NONE);
        choir.minutes(12);
        CHECK.same("dish 0 stays", choir.count(5), 1);
        CHECK.same("since minute 9 still", choir.dish(0, -2), 9);
        KettleChoir first = CHECK.choir("tin 9 15 1 0;tin 8 15 1 0;stove 40;stove 40;dish 1;");
        first.put(0, 0);
        first.put(1, 1);
        first.minutes(2);
        first.lift(0);
        first.lift(1);
        CHECK.same("the dish is ready in the second minute", first.dish(0, -2), 1);
    }

    /** Notes 4, 6, 9 and 14: steps 2, 5 and 10 in any order; 2, 5 and 9 not. */
    private static void dishOfThreeSteps() {
        KettleChoir choir = CHECK.choir("tin 4 4 1 0;tin 14 4 1 0;tin 9 4 1 0;tin 6 4 1 0;"
                + "stove 30;stove 30;stove 30;stove 30;dish 10 2 5;dish 2 5 9;dish 3 8;dish 2 3;");
        for (int k = 0; k < 4; k++) {
            choir.put(k, k);
        }
        choir.minutes(1);
        CHECK.same("nobody sings", choir.count(4), 0);
        choir.minutes(1);
        CHECK.same("all sing", choir.count(4), 15);
        CHECK.same("the note of kettle 3", choir.kettle(3, 8), 6);
        CHECK.same("the chord of three steps, and one from its second note", choir.count(5), 5);
        CHECK.same("ready in minute 1", choir.dish(0, -2), 1);
    }

    private static void lidsAndTaken() {
        KettleChoir choir = CHECK.choir("tin 5 20 5 0;tin 5 20 20 0;enamel 5 40 15 0;stove 10;stove 40;stove 10;");
        choir.put(0, 0);
        choir.put(1, 1);
        choir.put(2, 2);
        choir.minutes(7);
        CHECK.same("heat", choir.kettle(1, 5), 112);
        CHECK.same("lids: 70, 112, 35", choir.count(6), 2);
        CHECK.same("taken: the full one", choir.count(7), 2);
        choir.minutes(2);
        CHECK.same("lids: 90, 144, 45", choir.count(6), 2);
        choir.minutes(1);
        CHECK.same("lids: 100, 150, 50", choir.count(6), 3);
        CHECK.same("who sang", choir.count(4), 1);
        CHECK.same("taken: the full one, not the singer", choir.count(7), 2);
        choir.lift(0);
        choir.lift(1);
        choir.minutes(2);
        CHECK.same("heat 96", choir.kettle(0, 5), 96);
        CHECK.same("lids: 96, 146, 60", choir.count(6), 3);
        CHECK.same("taken: both", choir.count(7), 3);
        choir.minutes(9);
        CHECK.same("lids: 78, 128, 105", choir.count(6), 6);
        choir.minutes(9);
        CHECK.same("heat 110", choir.kettle(1, 5), 110);
        CHECK.same("heat 150", choir.kettle(2, 5), 150);
        CHECK.same("lids: 60, 110, 150", choir.count(6), 6);
        CHECK.same("the enamel one sings", choir.count(4), 4);
        CHECK.same("taken: the full one", choir.count(7), 2);
        KettleChoir edge = CHECK.choir("tin 5 20 20 0;stove 40;stove 3;");
        edge.put(0, 0);
        edge.minutes(5);
        edge.put(0, 1);
        edge.minutes(14);
        CHECK.same("heat 94", edge.kettle(0, 5), 94);
        CHECK.same("no lid at 94", edge.count(6), 0);
        edge.minutes(1);
        CHECK.same("a lid at 95", edge.count(6), 1);
    }

    /** Notes 4, 8, 12 and 8: 4-8 twice, 8-12 twice; then 5, 8, 12 and 8: 5-8 twice, 8-12 twice. */
    private static void thirds() {
        KettleChoir choir = CHECK.choir("tin 4 4 1 0;tin 8 4 1 0;tin 12 4 1 0;tin 8 4 1 0;tin 5 4 1 0;"
                + "stove 30;stove 30;stove 30;stove 30;");
        for (int k = 0; k < 4; k++) {
            choir.put(k, k);
        }
        choir.minutes(2);
        CHECK.same("thirds of 4, 8, 12, 8", choir.count(8), 4);
        choir.lift(0);
        CHECK.same("as it was in the minute ahead", choir.count(8), 4);
        choir.undo();
        choir.undo();
        CHECK.same("no thirds ahead", choir.count(8), 0);
        choir.lift(0);
        choir.put(4, 0);
        choir.minutes(2);
        CHECK.same("thirds of 5, 8, 12, 8", choir.count(8), 4);
        choir.lift(1);
        choir.lift(2);
        choir.lift(3);
        choir.minutes(1);
        CHECK.same("only 5 sings", choir.count(4), 16);
        CHECK.same("no thirds of one", choir.count(8), 0);
        KettleChoir five = CHECK.choir("tin 4 4 1 0;tin 9 4 1 0;tin 11 4 1 0;stove 30;stove 30;stove 30;");
        for (int k = 0; k < 3; k++) {
            five.put(k, k);
        }
        five.minutes(2);
        CHECK.same("5, 2 and 7 apart are none", five.count(8), 0);
    }
}
