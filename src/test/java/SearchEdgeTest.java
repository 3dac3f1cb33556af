/** The document's bounds of SOONEST, TUNED, THE CHORD, A BURNER and TOGETHER (==== 3, promises 22 to 26). */
public final class SearchEdgeTest {
    private static final Check CHECK = new Check("SearchEdgeTest");
    private static final int NONE = Check.NONE;
    private static final int[] FAR = {Integer.MIN_VALUE, Integer.MAX_VALUE};
    private static final Twins BUSY = new Twins(CHECK, Twins::busy);

    public static void main(String[] args) {
        soonestUpTo60();
        soonestInOne();
        soonestReady();
        soonestOfEachDish();
        soonestByALaterRow();
        soonestFirstRow();
        soonestOfEightOnFour();
        soonestWithTheCook();
        soonestMissing();
        tunedTo0To60();
        tunedUpTo9Tenths();
        tunedNearest();
        tunedByChalk();
        chordOfFew();
        chordOfFarSteps();
        chordByChalk();
        chordOfEachDish();
        chordMissing();
        burnerOf1To40();
        burnerWithin1To120();
        burnerOfNone();
        burnerRefused();
        togetherIn60();
        togetherSoManyApart();
        togetherByNote0();
        togetherRefused();
        asksChangeNothing();
        CHECK.end();
    }

    private static void row(KettleChoir choir, int dish, int when, int... kettles) {
        CHECK.same("when dish " + dish + " is ready soonest", choir.soonest(dish, NONE), when);
        for (int s = 0; s < kettles.length; s++) {
            CHECK.same("the kettle on stove " + s, choir.soonest(dish, s), kettles[s]);
        }
    }

    /** Two of 5 cups, by POWER 1, so that each minute is 1 of HEAT; they sing 9 and 12 at 100. */
    private static KettleChoir couple(int heat) {
        KettleChoir choir = CHECK.choir("tin 9 6 5 0;tin 12 6 5 0;stove 1;stove 1;dish 3;");
        choir.put(0, 0);
        choir.put(1, 1);
        for (int m = 0; m < heat; m++) {
            choir.minutes(1);
        }
        CHECK.same("heat", choir.kettle(1, 5), heat);
        return choir;
    }

    private static void soonestUpTo60() {
        CHECK.says("that by which it is READY soonest (up to MINUTE 60 ..): when; .. none");
        row(couple(38), 0, NONE, NONE, NONE);
        row(couple(39), 0, NONE, NONE, NONE);
        row(couple(40), 0, 60, 0, 1);
        row(couple(41), 0, 59, 0, 1);
        row(couple(98), 0, 2, 0, 1);
        row(couple(99), 0, 1, 0, 1);
    }

    private static void soonestInOne() {
        CHECK.says("all STOVES are cleared, and on each comes a KETTLE, or none");
        // Off the stoves 102 becomes 100, and 101 becomes 99.
        KettleChoir choir = CHECK.choir("tin 9 5 5 0;tin 12 5 5 0;stove 34;stove 34;stove 1;stove 1;dish 3;");
        choir.put(0, 0);
        choir.put(1, 1);
        choir.minutes(3);
        CHECK.same("heat", choir.kettle(0, 5), 102);
        choir.pour(0, 4);
        choir.pour(1, 4);
        row(choir, 0, 1, NONE, NONE, NONE, NONE);
        choir.lift(0);
        choir.lift(1);
        row(choir, 0, 1, NONE, NONE, NONE, NONE);
        // One stove is too few for both, whichever stands on it now.
        for (int k = 0; k < 4; k++) {
            KettleChoir one = CHECK.choir("tin 9 4 1 0;tin 12 4 1 0;tin 9 4 1 0;tin 12 4 1 0;stove 30;dish 3;");
            one.put(k, 0);
            row(one, 0, NONE, NONE);
        }
        choir.undo();
        choir.undo();
        choir.pour(1, 5);
        choir.minutes(1);
        CHECK.same("one sings", choir.count(4), 1);
        CHECK.same("they stay where they are", choir.stove(0, 1), 0);
    }

    private static void soonestReady() {
        CHECK.says("SOONEST: when (i NONE), the KETTLE on STOVE i (NONE: none); all NONE, if it can't be, or is READY.");
        KettleChoir choir = couple(99);
        row(choir, 0, 1, 0, 1);
        choir.minutes(1);
        CHECK.same("ready", choir.count(5), 1);
        row(choir, 0, NONE, NONE, NONE);
        choir.undo();
        row(choir, 0, 1, 0, 1);
        KettleChoir never = CHECK.choir("tin 9 6 5 0;tin 12 6 5 9;stove 40;stove 40;dish 3;dish 24;");
        row(never, 0, NONE, NONE, NONE);
        row(never, 1, NONE, NONE, NONE);
        row(CHECK.choir("stove 1;dish 3;"), 0, NONE, NONE);
        row(CHECK.choir("tin 9 6 5 0;tin 12 6 5 0;dish 3;"), 0, NONE);
    }

    private static void soonestOfEachDish() {
        CHECK.says("all NONE, if it can't be, or is READY");
        for (int d = 0; d < 5; d++) {
            KettleChoir choir = CHECK.choir("tin 9 4 1 0;tin 12 4 1 0;stove 30;stove 30;" + "dish 5;".repeat(d) + "dish 3;"
                    + "dish 5;".repeat(4 - d));
            for (int other = 0; other < 5; other++) {
                row(choir, other, other == d ? 2 : NONE, other == d ? 0 : NONE, other == d ? 1 : NONE);
            }
            choir.put(0, 0);
            choir.put(1, 1);
            choir.minutes(2);
            CHECK.same("the dish that is ready", choir.count(5), 1 << d);
            row(choir, d, NONE, NONE, NONE);
        }
    }

    /** 98 by POWER 2 and 99 by POWER 1 sing at once; the other way round, which comes ahead, a minute later. */
    private static void soonestByALaterRow() {
        CHECK.says("of all such rows that by which it is READY soonest .. when");
        KettleChoir choir = CHECK.choir("tin 9 6 5 0;tin 12 6 5 0;stove 1;stove 2;dish 3;");
        choir.put(1, 0);
        choir.minutes(30);
        choir.minutes(20);
        choir.put(0, 1);
        choir.minutes(30);
        choir.minutes(19);
        CHECK.same("heat of 0", choir.kettle(0, 5), 98);
        CHECK.same("heat of 1", choir.kettle(1, 5), 99);
        row(choir, 0, 1, 1, 0);
        choir.undo();
        choir.minutes(18);
        CHECK.same("heat of 0, a minute ahead", choir.kettle(0, 5), 96);
        CHECK.same("heat of 1, a minute ahead", choir.kettle(1, 5), 98);
        row(choir, 0, 2, 1, 0);
    }

    private static void soonestFirstRow() {
        CHECK.says("the first such row (STOVE by STOVE, none ahead of KETTLES)");
        String couple = "tin 12 4 1 0;tin 9 4 1 0;";
        row(CHECK.choir(couple + "stove 30;stove 30;dish 3;"), 0, 2, 0, 1);
        row(CHECK.choir(couple + "stove 30;stove 30;stove 30;dish 3;"), 0, 2, NONE, 0, 1);
        row(CHECK.choir(couple + "stove 30;stove 30;stove 30;stove 30;dish 3;"), 0, 2, NONE, NONE, 0, 1);
        row(CHECK.choir(couple + "stove 30;stove 29;stove 30;stove 29;dish 3;"), 0, 2, 0, NONE, 1, NONE);
        row(CHECK.choir(couple + "stove 30;stove 30;stove 29;stove 29;dish 3;"), 0, 2, 0, 1, NONE, NONE);
        row(CHECK.choir(couple + "stove 29;stove 30;stove 29;stove 29;dish 3;"), 0, 3, NONE, NONE, 0, 1);
        row(CHECK.choir("tin 9 4 1 9;" + couple + couple + "stove 30;stove 30;dish 3;"), 0, 2, 1, 2);
        row(CHECK.choir("tin 9 4 1 0;tin 9 4 1 0;tin 12 4 1 0;stove 30;stove 30;dish 3;"), 0, 2, 0, 2);
    }

    /** Only the last four can sing the four NOTES; all rows are looked through. */
    private static void soonestOfEightOnFour() {
        CHECK.says("of all such rows that by which it is READY soonest");
        String four = "tin 19 4 1 0;tin 16 4 1 0;tin 12 4 1 0;tin 9 4 1 0;";
        String stoves = "stove 30;stove 30;stove 30;stove 30;";
        row(CHECK.choir("tin 1 4 1 0;tin 1 4 1 0;tin 1 4 1 0;tin 1 4 1 0;" + four + stoves + "dish 3 7 10;"), 0, 2, 4, 5, 6, 7);
        row(CHECK.choir("tin 1 4 1 0;tin 1 4 1 0;tin 1 4 1 0;tin 1 4 1 0;" + four + stoves + "dish 3 7 11;"), 0, NONE, NONE,
                NONE, NONE, NONE);
        // 15 and 21 in the 4th minute, if the slow one has POWER 40; the other way round the quick one is dry too soon.
        row(CHECK.choir("tin 12 4 1 0;tin 9 40 4 0;stove 40;stove 20;dish 6;"), 0, 4, 1, 0);
    }

    private static void soonestWithTheCook() {
        CHECK.says("the cook does as ever");
        String couple = "tin 9 4 1 0;tin 12 4 1 0;stove 30;stove 30;dish 3;";
        row(CHECK.choir(couple + "lifts 99<heat;"), 0, 2, 0, 1);
        row(CHECK.choir(couple + "lifts 49<heat;"), 0, NONE, NONE, NONE);
        row(CHECK.choir(couple + "lifts 49<heat and chalk;"), 0, 2, 0, 1);
    }

    private static void soonestMissing() {
        CHECK.says("NoSuchElementException: also no such STOVE.");
        for (int wrong : new int[] {-2, 3, 4, FAR[0], FAR[1]}) {
            BUSY.unchanged("soonest(1, " + wrong + ")", choir -> CHECK.missing("soonest", () -> choir.soonest(1, wrong)));
            KettleChoir choir = Twins.busy();
            CHECK.same("the dish is ready", choir.done(0), 0);
            CHECK.missing("soonest(0, " + wrong + "), though it is ready", () -> choir.soonest(0, wrong));
        }
        for (int wrong : new int[] {-1, 2, 5, FAR[0], FAR[1]}) {
            BUSY.unchanged("soonest(" + wrong + ", 0)", choir -> CHECK.missing("soonest", () -> choir.soonest(wrong, 0)));
            KettleChoir choir = Twins.busy();
            CHECK.missing("soonest(" + wrong + ", -1)", () -> choir.soonest(wrong, NONE));
        }
        KettleChoir bare = CHECK.choir("tin 9 6 5 0;dish 3;");
        CHECK.missing("without stoves", () -> bare.soonest(0, 0));
        CHECK.same("when, without stoves", bare.soonest(0, NONE), NONE);
    }

    private static void tunedTo0To60() {
        CHECK.says("TUNED to a NOTE (0 to 60) .. IllegalArgumentException (behind NoSuchElementException): not 0 to 60.");
        KettleChoir choir = CHECK.choir("copper 1 4 1 8;tin 24 40 1 0;");
        CHECK.same("to 0", choir.tuned(0, 0), 1);
        CHECK.same("to 1", choir.tuned(0, 1), NONE);
        CHECK.same("to 31, the highest", choir.tuned(1, 31), 1);
        for (int note = 32; note <= 60; note++) {
            CHECK.same("to " + note, choir.tuned(1, note), NONE);
        }
        for (int wrong : new int[] {-1, 61, -2, 62, FAR[0], FAR[1]}) {
            BUSY.unchanged("tuned(0, " + wrong + ")", one -> CHECK.illegal("tuned", () -> one.tuned(0, wrong)));
            for (int kettle : new int[] {-1, 2, 8, FAR[0], FAR[1]}) {
                CHECK.missing("tuned(" + kettle + ", " + wrong + ")", () -> choir.tuned(kettle, wrong));
                CHECK.missing("tuned(" + kettle + ", 5)", () -> choir.tuned(kettle, 5));
            }
        }
    }

    /** The most cups that sing, from all cups; the least, from none. */
    private static void tunedUpTo9Tenths() {
        CHECK.says("the FILL (0 to 9 tenths of SIZE, 1 at least)");
        int[][] most = {{1, NONE}, {2, 1}, {3, 2}, {9, 8}, {10, 9}, {11, 9}, {12, 10}, {19, 17}, {20, 18}, {21, 18}, {30, 27},
            {31, 27}, {39, 35}, {40, 36}};
        for (int[] each : most) {
            KettleChoir choir = CHECK.choir("tin 9 " + each[0] + " " + each[0] + " 0;");
            CHECK.same("of all cups of " + each[0], choir.tuned(0, 9), each[1]);
            choir.pour(0, 0);
            int size = each[0];
            CHECK.same("of none of " + size, choir.tuned(0, 9 + (size - 1) / 5), size == 1 ? NONE : 1);
            CHECK.same("a note lower, of none of " + size, size < 7 ? NONE : choir.tuned(0, 8 + (size - 1) / 5),
                    size < 7 ? NONE : lowest(size));
        }
    }

    /** The least FILL by which what SIZE is above it has a fifth less than by 1. */
    private static int lowest(int size) {
        int fill = 1;
        while ((size - fill) / 5 == (size - 1) / 5) {
            fill++;
        }
        return 10 * fill <= 9 * size ? fill : NONE;
    }

    /** NOTE 10 is sung by FILL 11 to 15, so that no two are as near: of like ones there are none. */
    private static void tunedNearest() {
        CHECK.says("nearest to what it is (of like ones the lesser) by which its NOTE at HEAT 100 would be that");
        int[][] due = {{0, 11}, {1, 11}, {10, 11}, {11, 11}, {12, 12}, {13, 13}, {14, 14}, {15, 15}, {16, 15}, {17, 15},
            {19, 15}, {20, 15}};
        for (int[] each : due) {
            KettleChoir choir = CHECK.choir("tin 9 20 " + each[0] + " 0;stove 40;");
            CHECK.same("from " + each[0], choir.tuned(0, 10), each[1]);
        }
        KettleChoir hot = CHECK.choir("tin 9 20 5 0;stove 40;");
        hot.put(0, 0);
        hot.minutes(3);
        CHECK.same("its heat", hot.kettle(0, 5), 120);
        CHECK.same("its heat now counts for nothing", hot.tuned(0, 12), 5);
    }

    private static void tunedByChalk() {
        CHECK.says("(CHALK 9 never sings)");
        for (int chalk = 0; chalk <= 9; chalk++) {
            KettleChoir choir = CHECK.choir("tin 9 4 1 " + chalk + ";");
            for (int note = 5; note <= 10; note++) {
                boolean so = chalk < 9 && note == 9 - chalk / 3;
                CHECK.same("chalk " + chalk + " to " + note, choir.tuned(0, note), so ? 1 : NONE);
            }
        }
    }

    private static void cups(String text, int due) {
        CHECK.same("the chord of " + text, CHECK.choir(text).chord(0), due);
    }

    private static void chordOfFew() {
        CHECK.says("FILLS of some KETTLES (by TUNED, each for one NOTE) must be otherwise .. none");
        cups("dish 3;", NONE);
        cups("tin 9 4 1 0;dish 3;", NONE);
        cups("tin 9 4 1 0;tin 12 4 1 0;dish 3;", 0);
        cups("tin 9 4 1 0;tin 12 4 1 0;dish 3 7;", NONE);
        cups("tin 9 4 1 0;tin 12 4 1 0;tin 16 4 1 0;dish 3 7;", 0);
        cups("tin 9 4 1 0;tin 12 4 1 0;tin 16 4 1 0;dish 3 7 10;", NONE);
        cups("tin 9 4 1 0;tin 12 4 1 0;tin 16 4 1 0;tin 19 4 1 0;dish 3 7 10;", 0);
        // One of 40 cups could sing both NOTES, but not at once.
        cups("tin 9 40 1 0;dish 3;", NONE);
        cups("tin 9 40 30 0;tin 9 40 30 0;dish 3;", 11);
        cups("tin 9 4 1 0;tin 12 4 0 0;dish 3;", 1);
        cups("tin 9 4 1 0;tin 12 4 4 0;dish 3;", 1);
        cups("tin 9 4 3 0;tin 12 4 2 0;dish 3;", 0);
        cups("tin 9 1 1 0;tin 12 4 2 0;dish 3;", NONE);
    }

    private static void chordOfFarSteps() {
        CHECK.says("they sing a NOTE and those so many STEPS higher");
        // 1 alone, and 18 to 25.
        cups("tin 1 4 1 0;tin 18 40 1 0;dish 24;", 0);
        cups("tin 1 4 1 0;tin 18 40 5 0;dish 24;", 0);
        cups("tin 1 4 1 0;tin 18 40 6 0;dish 24;", 1);
        cups("tin 1 4 1 0;tin 17 40 1 0;dish 24;", NONE);
        cups("tin 18 40 1 0;tin 1 4 1 0;dish 24;", 0);
        cups("copper 1 4 1 8;tin 1 4 1 0;dish 1;", 0);
        cups("copper 1 4 1 8;tin 1 4 1 8;dish 1;", NONE);
        cups("copper 1 4 1 8;tin 17 40 1 0;dish 24;", 0);
        cups("tin 9 4 1 0;tin 9 4 1 0;dish 1;", NONE);
        // 31 is the highest at HEAT 100, and 30 so the highest to which one is a STEP higher.
        cups("tin 24 40 1 0;tin 24 35 1 0;dish 1;", 0);
        cups("tin 24 40 5 0;tin 24 35 1 0;dish 1;", 0);
        cups("tin 24 40 6 0;tin 24 35 1 0;dish 1;", 1);
        cups("tin 24 40 1 0;tin 24 10 1 0;dish 6;", 0);
        cups("tin 24 40 1 0;tin 24 4 1 0;dish 7;", 0);
        cups("tin 24 40 1 0;tin 24 40 1 0;dish 1;", 5);
    }

    private static void chordByChalk() {
        CHECK.says("none (CHALK 9 never sings)");
        cups("tin 9 4 1 8;tin 10 4 1 0;dish 3;", 0);
        cups("tin 9 4 1 9;tin 10 4 1 0;dish 3;", NONE);
        cups("tin 9 4 1 9;tin 10 4 1 0;dish 4;", NONE);
        cups("tin 9 4 1 9;tin 10 4 1 0;tin 13 4 3 0;dish 3;", 0);
        KettleChoir choir = CHECK.choir("tin 7 4 1 9;tin 10 4 1 0;dish 3;");
        CHECK.same("with its chalk", choir.chord(0), NONE);
        choir.scrape(0);
        CHECK.same("scraped", choir.chord(0), 0);
    }

    private static void chordOfEachDish() {
        CHECK.says("they sing a NOTE and those so many STEPS higher; none");
        KettleChoir choir = CHECK.choir("dish 3;dish 7 3;dish 11;dish 10 7 3;dish 1;tin 9 4 1 0;tin 12 4 1 0;tin 16 4 1 0;"
                + "tin 19 4 1 0;");
        int[] due = {0, 0, NONE, 0, NONE};
        for (int d = 0; d < 5; d++) {
            CHECK.same("the chord of dish " + d, choir.chord(d), due[d]);
        }
        choir.pour(3, 0);
        due[3] = 1;
        for (int d = 0; d < 5; d++) {
            CHECK.same("the chord of dish " + d + ", one being empty", choir.chord(d), due[d]);
        }
    }

    private static void chordMissing() {
        CHECK.says("no such DISH (as everywhere)");
        for (int wrong : new int[] {-1, 2, 5, FAR[0], FAR[1]}) {
            BUSY.unchanged("chord(" + wrong + ")", choir -> CHECK.missing("chord", () -> choir.chord(wrong)));
        }
    }

    /** FILL 5 gets as much as POWER is. */
    private static KettleChoir hot(int heat) {
        KettleChoir choir = CHECK.choir("tin 9 6 5 0;stove 40;stove 10;stove 1;lifts 101<heat;");
        CHECK.heat(choir, 0, heat);
        return choir;
    }

    private static void burnerOf1To40() {
        CHECK.says("of all POWERS (1 to 40) the least by which .. it SINGS within so many MINUTES .., from its HEAT now; none");
        int[][] due = {{58, NONE}, {59, NONE}, {60, 40}, {61, 39}, {98, 2}, {99, 1}};
        for (int[] each : due) {
            CHECK.same("within 1 from " + each[0], hot(each[0]).burner(0, 1), each[1]);
        }
        int[][] in2 = {{18, NONE}, {19, NONE}, {20, 40}, {21, 40}, {22, 39}, {98, 1}};
        for (int[] each : in2) {
            CHECK.same("within 2 from " + each[0], hot(each[0]).burner(0, 2), each[1]);
        }
        // Hot enough to sing on no stove at all: the least POWER is 1 still.
        for (int heat : new int[] {100, 101, 102, 149, 150}) {
            KettleChoir choir = CHECK.choir("tin 9 5 5 0;stove 40;stove 10;stove 1;");
            CHECK.heat(choir, 0, heat);
            CHECK.same("too full, from " + heat, choir.burner(0, 120), NONE);
            choir.pour(0, 4);
            CHECK.same("within 1 from " + heat, choir.burner(0, 1), 1);
            CHECK.same("within 120 from " + heat, choir.burner(0, 120), 1);
        }
    }

    private static void burnerWithin1To120() {
        CHECK.says("within so many MINUTES (1 to 120)");
        KettleChoir cold = CHECK.choir("tin 9 6 5 0;lifts 1;");
        int[][] due = {{1, NONE}, {2, NONE}, {3, 34}, {4, 25}, {49, 3}, {50, 2}, {98, 2}, {99, 2}, {100, 1}, {101, 1}, {119, 1},
            {120, 1}};
        for (int[] each : due) {
            CHECK.same("within " + each[0], cold.burner(0, each[0]), each[1]);
        }
    }

    private static void burnerOfNone() {
        CHECK.says("A BURNER: POWER; NONE: none.");
        for (String kettle : new String[] {"tin 9 6 0 0;", "tin 9 6 6 0;", "tin 9 6 5 9;", "tin 9 1 1 0;"}) {
            CHECK.same("never: " + kettle, CHECK.choir(kettle).burner(0, 120), NONE);
        }
        CHECK.same("1 of 6 cups", CHECK.choir("tin 9 6 1 0;").burner(0, 120), 1);
        CHECK.same("chalk 8", CHECK.choir("tin 9 6 5 8;").burner(0, 120), 1);
        CHECK.same("36 of 40 cups, iron", CHECK.choir("iron 9 40 36 0;").burner(0, 12), NONE);
        CHECK.same("36 of 40 cups, iron, within 13", CHECK.choir("iron 9 40 36 0;").burner(0, 13), 37);
    }

    private static void burnerRefused() {
        CHECK.says("IllegalArgumentException (behind NoSuchElementException): not 1 to 120.");
        for (int wrong : new int[] {-1, 0, 121, 122, FAR[0], FAR[1]}) {
            BUSY.unchanged("burner(0, " + wrong + ")", choir -> CHECK.illegal("burner", () -> choir.burner(0, wrong)));
            KettleChoir choir = Twins.busy();
            for (int kettle : new int[] {-1, 3, 8, FAR[0], FAR[1]}) {
                CHECK.missing("burner(" + kettle + ", " + wrong + ")", () -> choir.burner(kettle, wrong));
                CHECK.missing("burner(" + kettle + ", 1)", () -> choir.burner(kettle, 1));
            }
        }
    }

    private static void togetherIn60() {
        CHECK.says("in how many of the next 60 MINUTES both SING");
        CHECK.same("from 39", couple(39).together(0, 1, 1, 3), 0);
        CHECK.same("from 40", couple(40).together(0, 1, 1, 3), 1);
        CHECK.same("from 41", couple(41).together(0, 1, 1, 3), 2);
        CHECK.same("from 99, the other one", couple(99).together(1, 0, 1, 3), couple(99).together(0, 1, 1, 3));
        KettleChoir one = couple(40);
        one.lift(0);
        one.minutes(1);
        CHECK.same("only one of both in the last one", one.together(0, 1, 1, 3), 0);
        // 36 of 40 cups: more than 60 minutes of songs.
        KettleChoir hot = CHECK.choir("tin 9 40 36 0;tin 12 40 36 0;stove 37;stove 37;");
        hot.put(0, 0);
        hot.put(1, 1);
        hot.minutes(12);
        CHECK.same("they sing", hot.count(4), 3);
        CHECK.same("in all of the 60", hot.together(0, 1, 40, 3), 60);
        CHECK.same("4 apart in none", hot.together(0, 1, 40, 4), 0);
    }

    private static void togetherSoManyApart() {
        CHECK.says("both SING so many STEPS apart (0 to 24)");
        for (int apart = 0; apart <= 25; apart++) {
            String other = apart <= 23 ? "tin " + (1 + apart) + " 6 5 0;" : "tin " + (apart - 6) + " 40 5 0;";
            KettleChoir choir = CHECK.choir("tin 1 6 5 0;" + other + "stove 1;stove 1;");
            choir.put(0, 0);
            choir.put(1, 1);
            choir.minutes(30);
            choir.minutes(10);
            for (int steps : new int[] {apart - 1, apart, apart + 1}) {
                if (steps >= 0 && steps <= 24) {
                    int due = steps == apart ? 1 : 0;
                    CHECK.same(steps + " of " + apart + " apart", choir.together(0, 1, 1, steps), due);
                    CHECK.same(steps + " of " + apart + " apart, below", choir.together(1, 0, 1, steps), due);
                }
            }
        }
    }

    /** One cup by POWER 30 sings at 100, then twice at 150; copper of SPOUT 1 and CHALK 8 sings 0, then 3. */
    private static void togetherByNote0() {
        CHECK.says("both SING so many STEPS apart (0 to 24)");
        KettleChoir low = CHECK.choir("copper 1 4 1 8;copper 1 4 1 8;tin 1 4 1 0;tin 9 4 1 9;tin 9 4 1 9;");
        for (int steps = 0; steps <= 24; steps++) {
            CHECK.same("0 and 0, " + steps + " apart", low.together(0, 1, 30, steps), steps == 0 ? 3 : 0);
            int due = steps == 1 ? 1 : steps == 3 ? 2 : 0;
            CHECK.same("0 and 1, then 3 and 6, " + steps + " apart", low.together(0, 2, 30, steps), due);
            CHECK.same("1 and 0, then 6 and 3, " + steps + " apart", low.together(2, 0, 30, steps), due);
            CHECK.same("one doesn't sing, " + steps + " apart", low.together(2, 3, 30, steps), 0);
            CHECK.same("the other one doesn't, " + steps + " apart", low.together(3, 2, 30, steps), 0);
            CHECK.same("it doesn't, the other one sings 0, " + steps + " apart", low.together(3, 0, 30, steps), 0);
            CHECK.same("nobody sings, " + steps + " apart", low.together(3, 4, 30, steps), 0);
        }
    }

    private static void togetherRefused() {
        CHECK.says("IllegalArgumentException (behind NoSuchElementException): both are one, POWER, STEPS.");
        KettleChoir choir = Twins.busy();
        CHECK.holds("power 1", choir.together(0, 1, 1, 0) >= 0);
        CHECK.holds("power 40", choir.together(0, 1, 40, 24) >= 0);
        int[][] wrong = {{0, 0, 5, 5}, {1, 1, 5, 5}, {0, 1, 0, 5}, {0, 1, -1, 5}, {0, 1, 41, 5}, {0, 1, 5, -1}, {0, 1, 5, 25},
            {0, 1, FAR[0], 5}, {0, 1, FAR[1], 5}, {0, 1, 5, FAR[0]}, {0, 1, 5, FAR[1]}};
        for (int[] each : wrong) {
            String call = "together(" + each[0] + ", " + each[1] + ", " + each[2] + ", " + each[3] + ")";
            BUSY.unchanged(call,
                    one -> CHECK.illegal(call, () -> one.together(each[0], each[1], each[2], each[3])));
            for (int kettle : new int[] {-1, 3, FAR[0], FAR[1]}) {
                CHECK.missing(call + " with " + kettle, () -> choir.together(each[0], kettle, each[2], each[3]));
                CHECK.missing(call + " of " + kettle, () -> choir.together(kettle, each[1], each[2], each[3]));
                CHECK.missing(call + " of both " + kettle, () -> choir.together(kettle, kettle, each[2], each[3]));
            }
        }
        for (int kettle : new int[] {-1, 3, 8, FAR[0], FAR[1]}) {
            CHECK.missing("together of " + kettle, () -> choir.together(kettle, 0, 5, 5));
            CHECK.missing("together with " + kettle, () -> choir.together(0, kettle, 5, 5));
        }
    }

    private static void asksChangeNothing() {
        CHECK.says("SOONEST .. TUNED .. THE CHORD .. A BURNER .. TOGETHER");
        BUSY.unchanged("soonest(1, 0)", choir -> choir.soonest(1, 0));
        BUSY.unchanged("other asks", choir -> {
            choir.tuned(0, 6);
            choir.chord(0);
            choir.burner(0, 120);
            choir.together(0, 1, 40, 0);
        });
    }
}
