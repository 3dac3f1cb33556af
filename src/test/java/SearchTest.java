/** Promises 22 to 26: soonest, tuned, chord, burner, together. */
public final class SearchTest {
    private static final Check CHECK = new Check("SearchTest");
    private static final int NONE = Check.NONE;

    public static void main(String[] args) {
        askedWrongly();
        soonest();
        soonestFirstRow();
        soonestWithTheCook();
        soonestAsItIsNow();
        soonestUpTo60();
        tuned();
        tunedOfChalkNine();
        tunedOfOneThatRanDry();
        chord();
        chordOfMore();
        burner();
        together();
        CHECK.end();
    }

    private static void askedWrongly() {
        KettleChoir choir = CHECK.choir("tin 5 20 5 0;tin 5 20 5 0;stove 10;dish 3;");
        for (int wrong : new int[] {-1, 2, Integer.MAX_VALUE, Integer.MIN_VALUE}) {
            CHECK.missing("tuned of kettle " + wrong, () -> choir.tuned(wrong, 5));
            CHECK.missing("tuned of kettle " + wrong + " ahead of the note", () -> choir.tuned(wrong, 61));
            CHECK.missing("burner of kettle " + wrong, () -> choir.burner(wrong, 5));
            CHECK.missing("burner of kettle " + wrong + " ahead of the minutes", () -> choir.burner(wrong, 0));
            CHECK.missing("together of kettle " + wrong, () -> choir.together(wrong, 0, 5, 5));
            CHECK.missing("together with kettle " + wrong, () -> choir.together(0, wrong, 5, 5));
            CHECK.missing("together with kettle " + wrong + " ahead", () -> choir.together(wrong, wrong, 0, 25));
        }
        for (int wrong : new int[] {-1, 1, Integer.MAX_VALUE, Integer.MIN_VALUE}) {
            CHECK.missing("soonest of dish " + wrong, () -> choir.soonest(wrong, NONE));
            CHECK.missing("chord of dish " + wrong, () -> choir.chord(wrong));
        }
        for (int wrong : new int[] {-2, 1, Integer.MAX_VALUE, Integer.MIN_VALUE}) {
            CHECK.missing("soonest on stove " + wrong, () -> choir.soonest(0, wrong));
        }
        for (int wrong : new int[] {-1, 61, Integer.MAX_VALUE, Integer.MIN_VALUE}) {
            CHECK.illegal("tuned to " + wrong, () -> choir.tuned(0, wrong));
        }
        for (int wrong : new int[] {0, 121, -1, Integer.MAX_VALUE, Integer.MIN_VALUE}) {
            CHECK.illegal("burner within " + wrong, () -> choir.burner(0, wrong));
        }
        CHECK.illegal("together of one", () -> choir.together(0, 0, 5, 5));
        for (int wrong : new int[] {0, 41, -1, Integer.MAX_VALUE, Integer.MIN_VALUE}) {
            CHECK.illegal("together by power " + wrong, () -> choir.together(0, 1, wrong, 5));
        }
        for (int wrong : new int[] {-1, 25, Integer.MAX_VALUE, Integer.MIN_VALUE}) {
            CHECK.illegal("together " + wrong + " apart", () -> choir.together(0, 1, 5, wrong));
        }
    }

    private static void row(KettleChoir choir, int dish, int when, int... kettles) {
        CHECK.same("when dish " + dish + " is ready soonest", choir.soonest(dish, NONE), when);
        for (int s = 0; s < kettles.length; s++) {
            CHECK.same("the kettle on stove " + s, choir.soonest(dish, s), kettles[s]);
        }
    }

    /** In the 15th minute one sings 13 and the other 16, whichever is on which stove; no other couple fits sooner. */
    private static void soonest() {
        String kettles = "tin 5 20 5 0;tin 8 20 5 0;tin 20 20 5 0;";
        row(CHECK.choir(kettles + "stove 10;stove 40;dish 3;"), 0, 15, 0, 1);
        row(CHECK.choir(kettles + "stove 40;stove 40;dish 3;"), 0, 3, 0, 1);
        row(CHECK.choir(kettles + "stove 40;stove 40;dish 12;dish 15;dish 7;dish 1 2;"), 0, 3, 1, 2);
        row(CHECK.choir(kettles + "stove 40;stove 40;dish 12;dish 15;dish 7;dish 1 2;"), 1, 3, 0, 2);
        row(CHECK.choir(kettles + "stove 40;stove 40;dish 12;dish 15;dish 7;dish 1 2;"), 2, NONE, NONE, NONE);
        row(CHECK.choir(kettles + "stove 40;stove 40;dish 12;dish 15;dish 7;dish 1 2;"), 3, NONE, NONE, NONE);
        row(CHECK.choir(kettles + "stove 40;dish 3;"), 0, NONE, NONE);
        row(CHECK.choir("dish 3;"), 0, NONE);
        KettleChoir second = CHECK.choir(kettles + "stove 40;stove 40;dish 3;dish 12;");
        second.put(0, 0);
        second.put(1, 1);
        second.minutes(3);
        CHECK.same("the first dish is ready", second.count(5), 1);
        row(second, 0, NONE, NONE, NONE);
        CHECK.holds("the second one can be", second.soonest(1, NONE) > 0);
        row(CHECK.choir("tin 5 20 5 0;stove 10;dish 3;"), 0, NONE, NONE);
    }

    private static void soonestFirstRow() {
        String kettles = "tin 20 20 5 0;tin 8 20 5 0;tin 5 20 5 0;";
        row(CHECK.choir(kettles + "stove 1;stove 10;stove 40;dish 3;"), 0, 15, NONE, 1, 2);
        row(CHECK.choir(kettles + "stove 40;stove 40;stove 40;dish 3;"), 0, 3, NONE, 1, 2);
        row(CHECK.choir(kettles + "stove 40;stove 40;stove 1;dish 3;"), 0, 3, 1, 2, NONE);
        row(CHECK.choir(kettles + "tin 8 20 5 0;stove 40;stove 40;dish 3;"), 0, 3, 1, 2);
    }

    /** The cook lifts off those of 5 cups in the first minute: the couple of 6 cups is left. */
    private static void soonestWithTheCook() {
        String kettles = "tin 5 20 5 0;tin 8 20 5 0;tin 5 20 6 0;tin 8 20 6 0;stove 40;stove 40;dish 3;";
        row(CHECK.choir(kettles), 0, 3, 0, 1);
        row(CHECK.choir(kettles + "lifts 30<heat and fill=5;"), 0, 3, 2, 3);
        row(CHECK.choir(kettles + "lifts 30<heat;"), 0, NONE, NONE, NONE);
        row(CHECK.choir(kettles + "lifts note;"), 0, 3, 0, 1);
    }

    private static void soonestAsItIsNow() {
        KettleChoir choir = CHECK.choir("tin 5 20 20 0;tin 8 20 20 0;stove 40;stove 40;dish 3;");
        row(choir, 0, NONE, NONE, NONE);
        choir.put(0, 0);
        choir.put(1, 1);
        choir.minutes(8);
        row(choir, 0, NONE, NONE, NONE);
        choir.pour(0, 10);
        choir.pour(1, 10);
        row(choir, 0, 1, NONE, NONE);
        CHECK.same("they stay on the stoves", choir.stove(1, 1), 1);
        choir.undo();
        row(choir, 0, NONE, NONE, NONE);
        choir.pour(1, 10);
        choir.image();
        choir.minutes(1);
        CHECK.same("ready", choir.count(5), 1);
        row(choir, 0, NONE, NONE, NONE);
        CHECK.missing("no such stove, though it is ready", () -> choir.soonest(0, 2));
        choir.restore();
        row(choir, 0, 1, NONE, NONE);
        Check.read(choir, "tin 5 20 5 0;tin 8 20 5 0;stove 40;stove 40;dish 3;");
        row(choir, 0, 3, 0, 1);
        choir.scrape(0);
        row(choir, 0, 3, 0, 1);
        choir.put(0, 1);
        choir.minutes(1);
        row(choir, 0, 4, 0, 1);
    }

    /** By POWER 6 and 17 cups (HEAT 2 more) they sing in the 50th minute; by POWER 4 (1 more) only in the 100th. */
    private static void soonestUpTo60() {
        String kettles = "tin 5 20 17 0;tin 8 20 17 0;";
        row(CHECK.choir(kettles + "stove 6;stove 6;dish 3;"), 0, 50, 0, 1);
        KettleChoir choir = CHECK.choir(kettles + "stove 4;stove 4;dish 3;");
        row(choir, 0, NONE, NONE, NONE);
        choir.put(0, 0);
        choir.put(1, 1);
        choir.minutes(30);
        choir.minutes(9);
        row(choir, 0, NONE, NONE, NONE);
        choir.minutes(1);
        row(choir, 0, 60, 0, 1);
    }

    private static void tuned() {
        KettleChoir choir = CHECK.choir("tin 5 20 10 0;copper 8 20 5 3;iron 1 5 4 8;tin 9 1 1 0;tin 9 11 11 8;"
                + "enamel 24 40 40 0;");
        int[] due = {NONE, NONE, NONE, NONE, NONE, 16, 11, 10, 5, NONE, NONE};
        for (int note = 0; note < due.length; note++) {
            CHECK.same("tuned(0, " + note + ")", choir.tuned(0, note), due[note]);
        }
        int[] copper = {NONE, NONE, NONE, NONE, NONE, NONE, 16, 11, 6, 5, NONE};
        for (int note = 0; note < copper.length; note++) {
            CHECK.same("tuned(1, " + note + ")", choir.tuned(1, note), copper[note]);
        }
        CHECK.same("tuned(2, 0): -1 is kept to 0", choir.tuned(2, 0), 4);
        CHECK.same("tuned(2, 1)", choir.tuned(2, 1), NONE);
        CHECK.same("tuned(3, 9): a cup of one is too full", choir.tuned(3, 9), NONE);
        CHECK.same("tuned(4, 7): 9 of 11 cups, with its chalk", choir.tuned(4, 7), 9);
        CHECK.same("tuned(4, 8)", choir.tuned(4, 8), 6);
        CHECK.same("tuned(4, 9)", choir.tuned(4, 9), 1);
        CHECK.same("tuned(5, 24): 36 of 40 cups", choir.tuned(5, 24), 36);
        CHECK.same("tuned(5, 31)", choir.tuned(5, 31), 5);
        CHECK.same("tuned(5, 32)", choir.tuned(5, 32), NONE);
        CHECK.same("tuned(5, 60)", choir.tuned(5, 60), NONE);
        choir.scrape(1);
        CHECK.same("tuned(1, 10) without chalk", choir.tuned(1, 10), 5);
        choir.pour(0, 0);
        CHECK.same("tuned(0, 8) of an empty one", choir.tuned(0, 8), 1);
        CHECK.same("tuned(0, 7) of an empty one", choir.tuned(0, 7), 6);
    }

    /** With CHALK 9 it never sings: no FILL gives it any NOTE, until it is scraped. */
    private static void tunedOfChalkNine() {
        KettleChoir choir = CHECK.choir("tin 5 20 5 9;copper 1 4 1 9;");
        for (int note = 0; note <= 60; note++) {
            CHECK.same("tuned(0, " + note + ") of chalk 9", choir.tuned(0, note), NONE);
            CHECK.same("tuned(1, " + note + ") of chalk 9", choir.tuned(1, note), NONE);
        }
        CHECK.illegal("tuned to 61 with chalk 9", () -> choir.tuned(0, 61));
        choir.scrape(0);
        CHECK.same("tuned(0, 5) behind scraping", choir.tuned(0, 5), 16);
        CHECK.same("tuned(0, 8) behind scraping", choir.tuned(0, 8), 5);
        choir.undo();
        CHECK.same("tuned(0, 5), scraping undone", choir.tuned(0, 5), NONE);
    }

    /** Its last cup goes in the fourth minute, and its chalk is 9 by that. */
    private static void tunedOfOneThatRanDry() {
        KettleChoir choir = CHECK.choir("tin 5 20 1 8;stove 40;");
        choir.put(0, 0);
        choir.minutes(3);
        CHECK.same("tuned(0, 5) of chalk 8", choir.tuned(0, 5), 6);
        choir.minutes(1);
        CHECK.same("chalk of one that ran dry", choir.kettle(0, 4), 9);
        CHECK.same("tuned(0, 5) of one that ran dry", choir.tuned(0, 5), NONE);
        choir.undo();
        CHECK.same("tuned(0, 5), the minute undone", choir.tuned(0, 5), 6);
    }

    private static void chord() {
        cups("tin 5 20 10 0;tin 8 20 10 0;dish 3;", 0);
        cups("tin 5 20 10 0;tin 9 20 10 0;dish 3;", 1);
        cups("tin 9 20 10 0;tin 5 20 10 0;dish 3;", 1);
        cups("tin 5 20 10 0;tin 9 20 10 0;dish 4;", 0);
        cups("tin 5 20 10 0;tin 9 20 10 0;dish 5;", 1);
        cups("tin 5 20 10 0;tin 9 20 10 0;dish 7;", 5 + 6);
        cups("tin 5 20 10 0;tin 9 20 10 0;dish 8;", NONE);
        cups("tin 5 20 10 9;tin 9 20 10 0;dish 3;", NONE);
        cups("tin 5 20 10 8;tin 9 20 10 0;dish 6;", 0);
        cups("tin 5 20 10 0;dish 1;", NONE);
        cups("dish 1;", NONE);
        cups("tin 5 20 10 0;tin 5 20 10 0;dish 1;", 1);
        cups("tin 5 20 20 0;tin 5 20 10 0;dish 1;", 2 + 1);
        cups("tin 5 20 0 0;tin 5 20 10 0;dish 1;", 1);
        cups("copper 1 4 1 8;tin 5 4 1 0;dish 5;", 0);
        cups("copper 1 4 1 8;tin 5 4 1 0;dish 4;", NONE);
    }

    /** Notes 7, 10 and 14 as they are; a fourth kettle of 11. */
    private static void chordOfMore() {
        String kettles = "tin 5 20 10 0;tin 8 20 10 0;tin 12 20 10 0;";
        cups(kettles + "dish 3 7;", 0);
        cups(kettles + "dish 7 3;", 0);
        cups(kettles + "dish 4 7;", 1 + 1);
        cups(kettles + "tin 9 20 10 0;dish 4 7;", 0);
        cups(kettles + "tin 9 20 10 0;dish 3 4 7;", 0);
        cups(kettles + "tin 9 20 10 0;dish 3 5 7;", 1 + 1 + 1);
        cups(kettles + "tin 9 20 10 9;dish 3 4 7;", NONE);
        cups(kettles + "dish 3 4 7;", NONE);
        KettleChoir choir = CHECK.choir(kettles + "dish 3 7;");
        choir.pour(0, 20);
        CHECK.same("the chord with 20 cups in one: to 15, 11 and 11", choir.chord(0), 5 + 1 + 1);
    }

    private static void cups(String text, int due) {
        CHECK.same("the chord of " + text, CHECK.choir(text).chord(0), due);
    }

    private static void burner() {
        KettleChoir choir = CHECK.choir("tin 5 20 10 0;iron 5 20 10 0;tin 5 20 19 0;tin 5 20 0 0;tin 5 20 10 9;stove 9;"
                + "lifts 1;");
        CHECK.same("burner(0, 5): 20 each", choir.burner(0, 5), 30);
        CHECK.same("burner(0, 4): 25 each", choir.burner(0, 4), 38);
        CHECK.same("burner(0, 3)", choir.burner(0, 3), NONE);
        CHECK.same("burner(0, 100): 1 each", choir.burner(0, 100), 1);
        CHECK.same("burner(0, 99): 2 each", choir.burner(0, 99), 3);
        CHECK.same("burner(0, 120)", choir.burner(0, 120), 1);
        CHECK.same("burner(1, 5): 20 each", choir.burner(1, 5), 40);
        CHECK.same("burner(1, 4)", choir.burner(1, 4), NONE);
        CHECK.same("burner(2, 120): too full", choir.burner(2, 120), NONE);
        CHECK.same("burner(3, 120): empty", choir.burner(3, 120), NONE);
        CHECK.same("burner(4, 120): too much chalk", choir.burner(4, 120), NONE);
        for (int m = 0; m < 6; m++) {
            choir.put(0, 0);
            choir.minutes(1);
        }
        CHECK.same("heat", choir.kettle(0, 5), 36);
        CHECK.same("burner(0, 4) from 36 on: 16 each", choir.burner(0, 4), 24);
        CHECK.same("burner(0, 1) from 36 on", choir.burner(0, 1), NONE);
        CHECK.same("its heat stays", choir.kettle(0, 5), 36);
    }

    /** Both sing in the minutes 9 to 21, 3 apart, as the one of StateTest does; later cups go later. */
    private static void together() {
        KettleChoir choir = CHECK.choir("tin 5 20 5 0;tin 8 20 5 0;iron 8 20 5 0;stove 1;lifts 1;");
        CHECK.same("together(0, 1, 10, 3)", choir.together(0, 1, 10, 3), 13);
        CHECK.same("together(1, 0, 10, 3)", choir.together(1, 0, 10, 3), 13);
        CHECK.same("together(0, 1, 10, 0)", choir.together(0, 1, 10, 0), 0);
        CHECK.same("together(0, 1, 10, 4)", choir.together(0, 1, 10, 4), 0);
        CHECK.same("together(0, 1, 40, 24)", choir.together(0, 1, 40, 24), 0);
        CHECK.same("together(0, 1, 40, 3)", choir.together(0, 1, 40, 3), 14);
        CHECK.same("together(0, 1, 1, 3): 1 each", choir.together(0, 1, 1, 3), 0);
        choir.minutes(1);
        CHECK.same("together(0, 1, 10, 3) from minute 1 on", choir.together(0, 1, 10, 3), 15);
        choir.minutes(1);
        CHECK.same("together(0, 1, 10, 3) from minute 2 on", choir.together(0, 1, 10, 3), 14);
        CHECK.same("their heat stays", choir.kettle(0, 5) + choir.kettle(1, 5), 0);
        KettleChoir slow = CHECK.choir("tin 5 40 30 0;tin 5 40 30 0;");
        CHECK.same("together in the last of 60", slow.together(0, 1, 8, 0), 11);
        CHECK.same("together 0 apart", slow.together(0, 1, 40, 0), 60 - 9);
    }
}
