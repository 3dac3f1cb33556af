/** The document's bounds of a MINUTE (==== 2) and of what can be read of it (promises 5 to 8). */
public final class MinuteEdgeTest {
    private static final Check CHECK = new Check("MinuteEdgeTest");
    private static final int NONE = Check.NONE;
    private static final String[] KINDS = {"tin", "copper", "iron", "enamel"};
    // By POWER 40, 10 and 1, so that any HEAT can be reached.
    private static final String STOVES = "stove 40;stove 10;stove 1;";

    public static void main(String[] args) {
        countsOfWhat();
        nobodyAhead();
        kettlesOfWhat();
        stovesOfWhat();
        dishesOfSteps();
        heatBySoMuch();
        heatUpTo150();
        heatNotBelow0();
        singsFrom100();
        singsByItsFill();
        singsByItsChalk();
        fifthOfTheEmptyCups();
        tenthOfTheHeat();
        thirdOfTheChalk();
        notesKeptTo0();
        highestNote();
        stepsOfADish();
        chordsOfSteps();
        readyStays();
        cupsInEveryThirdMinute();
        chalkByTheLastCup();
        lidsFrom95();
        taken();
        thirds3Or4();
        CHECK.end();
    }

    private static void countsOfWhat() {
        CHECK.says("0 KETTLES .. 12 to 14 STATUS 0 to 2. NoSuchElementException: another what.");
        int[] due = {3, 3, 2, 12, 3, 1, 3, 0, 0, 6, 2, 20, 1, 3, 1};
        KettleChoir choir = Twins.busy();
        for (int what = 0; what <= 14; what++) {
            CHECK.same("count(" + what + ")", choir.count(what), due[what]);
        }
        for (int wrong : new int[] {NONE, 15, Integer.MIN_VALUE, Integer.MAX_VALUE}) {
            CHECK.missing("count(" + wrong + ")", () -> choir.count(wrong));
        }
    }

    private static void nobodyAhead() {
        CHECK.says("4 who sang in the MINUTE ahead (bits; 0 without one)");
        KettleChoir choir = CHECK.choir("tin 5 20 5 0;stove 40;");
        CHECK.same("without a minute", choir.count(4), 0);
        choir.put(0, 0);
        choir.minutes(3);
        CHECK.same("it sings", choir.count(4), 1);
        choir.undo();
        CHECK.same("without a minute again", choir.count(4), 0);
        CHECK.same("its note", choir.kettle(0, 8), NONE);
        StringBuilder eight = new StringBuilder("stove 40;stove 40;stove 40;stove 40;");
        for (int k = 0; k < 8; k++) {
            eight.append("enamel 5 20 5 0;");
        }
        KettleChoir all = CHECK.choir(eight.toString());
        for (int k = 0; k < 8; k++) {
            all.lift((k + 4) % 8);
            all.put(k, k % 4);
            if (k % 4 == 3) {
                all.minutes(4);
            }
        }
        CHECK.same("eight sing", all.count(4), 255);
        CHECK.same("eight lids", all.count(6), 255);
    }

    private static void kettlesOfWhat() {
        CHECK.says("Of a KETTLE: 0 KIND .. 8 the NOTE .. NoSuchElementException: no such KETTLE (as everywhere), what.");
        KettleChoir choir = Twins.busy();
        int[] due = {1, 8, 20, 2, 0, 150, 1, 10, 15};
        for (int what = 0; what <= 8; what++) {
            CHECK.same("kettle(1, " + what + ")", choir.kettle(1, what), due[what]);
        }
        for (int wrong : new int[] {NONE, 9, Integer.MIN_VALUE, Integer.MAX_VALUE}) {
            CHECK.missing("kettle(1, " + wrong + ")", () -> choir.kettle(1, wrong));
        }
        CHECK.same("the last kettle", choir.kettle(2, 0), 2);
        for (int wrong : new int[] {NONE, 3, 7, 8, Integer.MIN_VALUE, Integer.MAX_VALUE}) {
            CHECK.missing("kettle(" + wrong + ", 0)", () -> choir.kettle(wrong, 0));
        }
        CHECK.same("the stove of one on none", choir.kettle(2, 6), NONE);
        CHECK.same("the note of one that didn't sing", choir.kettle(2, 8), NONE);
        CHECK.same("the last of eight", CHECK.choir("tin 5 20 5 0;".repeat(8)).kettle(7, 1), 5);
    }

    private static void stovesOfWhat() {
        CHECK.says("Of a STOVE: 0 POWER, 1 the KETTLE (NONE). NoSuchElementException: no such STOVE (as everywhere), what.");
        KettleChoir choir = CHECK.choir("tin 5 20 5 0;tin 5 20 5 0;stove 10;stove 40;stove 3;stove 4;");
        choir.put(0, 3);
        choir.put(1, 0);
        CHECK.same("stove(0, 0)", choir.stove(0, 0), 10);
        CHECK.same("stove(3, 0)", choir.stove(3, 0), 4);
        CHECK.same("stove(0, 1)", choir.stove(0, 1), 1);
        CHECK.same("stove(1, 1)", choir.stove(1, 1), NONE);
        CHECK.same("stove(3, 1)", choir.stove(3, 1), 0);
        for (int wrong : new int[] {NONE, 2, Integer.MIN_VALUE, Integer.MAX_VALUE}) {
            CHECK.missing("stove(0, " + wrong + ")", () -> choir.stove(0, wrong));
        }
        for (int wrong : new int[] {NONE, 4, Integer.MIN_VALUE, Integer.MAX_VALUE}) {
            CHECK.missing("stove(" + wrong + ", 0)", () -> choir.stove(wrong, 0));
        }
        KettleChoir one = CHECK.choir("stove 10;");
        CHECK.missing("the second of one", () -> one.stove(1, 0));
    }

    private static void dishesOfSteps() {
        CHECK.says("the i-th STEP as told, of i NONE how many, of i -2 the MINUTE .. NoSuchElementException: .. STEP");
        KettleChoir choir = CHECK.choir("dish 24;dish 1 24;dish 9 3 6;dish 2;dish 5;");
        int[][] due = {{24}, {1, 24}, {9, 3, 6}, {2}, {5}};
        for (int d = 0; d < due.length; d++) {
            int dish = d;
            CHECK.same("dish(" + d + ", -2)", choir.dish(d, -2), NONE);
            CHECK.same("dish(" + d + ", -1)", choir.dish(d, NONE), due[d].length);
            for (int i = 0; i < due[d].length; i++) {
                CHECK.same("dish(" + d + ", " + i + ")", choir.dish(d, i), due[d][i]);
            }
            for (int wrong : new int[] {-3, due[d].length, 3, Integer.MIN_VALUE, Integer.MAX_VALUE}) {
                CHECK.missing("dish(" + d + ", " + wrong + ")", () -> choir.dish(dish, wrong));
            }
        }
        for (int wrong : new int[] {NONE, 5, Integer.MIN_VALUE, Integer.MAX_VALUE}) {
            CHECK.missing("dish(" + wrong + ", -1)", () -> choir.dish(wrong, NONE));
            CHECK.missing("dish(" + wrong + ", -2)", () -> choir.dish(wrong, -2));
            CHECK.missing("dish(" + wrong + ", 0)", () -> choir.dish(wrong, 0));
        }
    }

    /** What each FILL gets of each POWER in one minute. */
    private static void heatBySoMuch() {
        CHECK.says("10 times POWER by FILL and 5 (iron: FILL and 10), cut down, but 1 at least");
        heatOf("tin", 40, 0, 80);
        heatOf("tin", 40, 40, 8);
        heatOf("iron", 40, 0, 40);
        heatOf("iron", 40, 40, 8);
        heatOf("tin", 1, 0, 2);
        heatOf("tin", 1, 4, 1);
        heatOf("tin", 1, 5, 1);
        heatOf("tin", 1, 6, 1);
        heatOf("tin", 1, 40, 1);
        heatOf("iron", 1, 0, 1);
        heatOf("iron", 1, 1, 1);
        heatOf("iron", 1, 40, 1);
        heatOf("tin", 4, 35, 1);
        heatOf("tin", 4, 36, 1);
        heatOf("tin", 8, 34, 2);
        heatOf("tin", 8, 35, 2);
        heatOf("tin", 8, 36, 1);
        heatOf("iron", 8, 29, 2);
        heatOf("iron", 8, 30, 2);
        heatOf("iron", 8, 31, 1);
        heatOf("copper", 8, 35, 2);
        heatOf("copper", 8, 36, 1);
        heatOf("enamel", 8, 35, 2);
        heatOf("enamel", 8, 36, 1);
        for (String kind : KINDS) {
            for (int power = 1; power <= 40; power += 3) {
                for (int fill = 0; fill <= 40; fill += 2) {
                    int by = fill + (kind.equals("iron") ? 10 : 5);
                    int times = 0;
                    while ((times + 1) * by <= 10 * power) {
                        times++;
                    }
                    heatOf(kind, power, fill, times == 0 ? 1 : times);
                }
            }
        }
    }

    private static void heatOf(String kind, int power, int fill, int due) {
        KettleChoir choir = CHECK.choir(kind + " 5 40 " + fill + " 0;stove " + power + ";");
        choir.put(0, 0);
        choir.minutes(1);
        CHECK.same("the heat of " + kind + " with " + fill + " cups by " + power, choir.kettle(0, 5), due);
    }

    /** One of 5 cups of 5 is too full to sing, and gets as much as POWER is. */
    private static KettleChoir full(int heat) {
        KettleChoir choir = CHECK.choir("tin 9 5 5 0;" + STOVES);
        CHECK.heat(choir, 0, heat);
        return choir;
    }

    private static void heatUpTo150() {
        CHECK.says("up to 150");
        int[][] due = {{109, 149}, {110, 150}, {111, 150}, {139, 150}, {149, 150}, {150, 150}};
        for (int[] each : due) {
            KettleChoir choir = full(each[0]);
            choir.put(0, 0);
            choir.minutes(1);
            CHECK.same("heat from " + each[0] + " by 40", choir.kettle(0, 5), each[1]);
        }
        for (int from = 147; from <= 150; from++) {
            KettleChoir choir = full(from);
            choir.minutes(1);
            CHECK.same("heat from " + from + " by 1", choir.kettle(0, 5), Math.min(150, from + 1));
        }
        KettleChoir long30 = full(150);
        long30.minutes(30);
        CHECK.same("heat of 30 minutes more", long30.kettle(0, 5), 150);
    }

    private static void heatNotBelow0() {
        CHECK.says("each other one loses 2 (enamel 1), not below 0");
        for (String kind : KINDS) {
            int loss = kind.equals("enamel") ? 1 : 2;
            for (int heat = 0; heat <= 5; heat++) {
                KettleChoir choir = CHECK.choir(kind + " 9 5 5 0;stove 4;stove 2;stove 1;");
                CHECK.heat(choir, 0, heat);
                choir.lift(0);
                choir.minutes(1);
                int due = heat - loss < 0 ? 0 : heat - loss;
                CHECK.same(kind + " of heat " + heat + " off the stove", choir.kettle(0, 5), due);
                choir.minutes(30);
                CHECK.same(kind + " 30 minutes later", choir.kettle(0, 5), 0);
            }
        }
        KettleChoir hot = full(150);
        hot.lift(0);
        hot.minutes(1);
        CHECK.same("150 off the stove", hot.kettle(0, 5), 148);
    }

    private static void singsFrom100() {
        CHECK.says("it SINGS, if its HEAT is 100 or more");
        for (int heat = 97; heat <= 101; heat++) {
            KettleChoir choir = full(heat);
            choir.pour(0, 4);
            choir.minutes(1);
            CHECK.same("heat", choir.kettle(0, 5), heat + 1);
            CHECK.same("whether " + (heat + 1) + " sings", choir.count(4), heat + 1 >= 100 ? 1 : 0);
            CHECK.same("minutes that it has sung", choir.kettle(0, 7), heat + 1 >= 100 ? 1 : 0);
            KettleChoir off = full(heat + 2);
            off.pour(0, 4);
            off.lift(0);
            off.minutes(1);
            CHECK.same("heat off the stove", off.kettle(0, 5), heat);
            CHECK.same("whether " + heat + " sings off the stove", off.count(4), heat >= 100 ? 1 : 0);
        }
    }

    /** All sizes and fills, POWER 40: it sings first when it has 100. */
    private static void singsByItsFill() {
        CHECK.says("its FILL 1 or more, and no more than nine tenths of its SIZE (10 by FILL is no more than 9 by SIZE)");
        // The most cups of which each SIZE sings, written out.
        int[] most = {0, 0, 1, 2, 3, 4, 5, 6, 7, 8, 9, 9, 10, 11, 12, 13, 14, 15, 16, 17, 18, 18, 19, 20, 21, 22, 23, 24, 25,
            26, 27, 27, 28, 29, 30, 31, 32, 33, 34, 35, 36};
        for (int size = 1; size <= 40; size++) {
            for (int fill = 0; fill <= size; fill++) {
                KettleChoir choir = CHECK.choir("tin 5 " + size + " " + fill + " 0;stove 40;");
                choir.put(0, 0);
                choir.minutes(20);
                boolean sang = choir.kettle(0, 7) > 0;
                CHECK.same("whether " + fill + " of " + size + " cups sing", sang, fill >= 1 && fill <= most[size]);
            }
        }
    }

    private static void singsByItsChalk() {
        CHECK.says("and its CHALK isn't 9");
        for (int chalk = 0; chalk <= 9; chalk++) {
            KettleChoir choir = CHECK.choir("tin 5 4 1 " + chalk + ";stove 30;");
            choir.put(0, 0);
            choir.minutes(2);
            CHECK.same("heat", choir.kettle(0, 5), 100);
            CHECK.same("whether chalk " + chalk + " sings", choir.count(4), chalk == 9 ? 0 : 1);
        }
    }

    /** One cup by POWER 30 has HEAT 50, then 100. */
    private static int noteAt100(String kettle) {
        KettleChoir choir = CHECK.choir(kettle + ";stove 30;");
        choir.put(0, 0);
        choir.minutes(2);
        CHECK.same("heat of " + kettle, choir.kettle(0, 5), 100);
        return choir.kettle(0, 8);
    }

    private static void fifthOfTheEmptyCups() {
        CHECK.says("a fifth of what SIZE is above FILL .. (all cut down)");
        int[][] due = {{2, 0}, {5, 0}, {6, 1}, {7, 1}, {10, 1}, {11, 2}, {12, 2}, {35, 6}, {36, 7}, {40, 7}};
        for (int[] each : due) {
            CHECK.same("1 cup of " + each[0], noteAt100("tin 9 " + each[0] + " 1 0"), 9 + each[1]);
        }
    }

    private static void tenthOfTheHeat() {
        CHECK.says("a tenth of what HEAT is above 100 .. (all cut down)");
        int[][] due = {{100, 0}, {101, 0}, {109, 0}, {110, 1}, {111, 1}, {119, 1}, {120, 2}, {129, 2}, {130, 3}, {139, 3},
            {140, 4}, {149, 4}, {150, 5}};
        for (int[] each : due) {
            KettleChoir choir = full(each[0] - 1);
            choir.pour(0, 4);
            choir.minutes(1);
            CHECK.same("heat", choir.kettle(0, 5), each[0]);
            CHECK.same("the note at heat " + each[0], choir.kettle(0, 8), 9 + each[1]);
        }
    }

    private static void thirdOfTheChalk() {
        CHECK.says("less a third of CHALK (all cut down), less 1, if it is copper");
        int[] less = {0, 0, 0, 1, 1, 1, 2, 2, 2};
        for (int chalk = 0; chalk <= 8; chalk++) {
            CHECK.same("tin of chalk " + chalk, noteAt100("tin 9 4 1 " + chalk), 9 - less[chalk]);
            CHECK.same("copper of chalk " + chalk, noteAt100("copper 9 4 1 " + chalk), 8 - less[chalk]);
            CHECK.same("enamel of chalk " + chalk, noteAt100("enamel 9 4 1 " + chalk), 9 - less[chalk]);
        }
    }

    private static void notesKeptTo0() {
        CHECK.says("kept to 0 to 60");
        CHECK.same("-2", noteAt100("copper 1 4 1 8"), 0);
        CHECK.same("-1", noteAt100("copper 2 4 1 8"), 0);
        CHECK.same("0", noteAt100("copper 3 4 1 8"), 0);
        CHECK.same("1", noteAt100("copper 4 4 1 8"), 1);
        CHECK.same("-1 of tin", noteAt100("tin 1 4 1 8"), 0);
        CHECK.same("0 of tin", noteAt100("tin 2 4 1 8"), 0);
        CHECK.same("1 of tin", noteAt100("tin 3 4 1 8"), 1);
        CHECK.same("0 of copper without chalk", noteAt100("copper 1 4 1 0"), 0);
        CHECK.same("-1 of copper", noteAt100("copper 1 4 1 3"), 0);
        KettleChoir low = CHECK.choir("copper 1 4 1 8;tin 1 4 1 8;tin 3 4 1 0;stove 30;stove 30;stove 30;dish 3;dish 5;dish 4;");
        for (int k = 0; k < 3; k++) {
            low.put(k, k);
        }
        low.minutes(2);
        CHECK.same("0, 0 and 3: the dish of 3 alone is ready", low.count(5), 1);
        CHECK.same("two thirds", low.count(8), 2);
    }

    /** SPOUT 24, 39 cups above FILL and HEAT 150: no NOTE comes near 60. */
    private static void highestNote() {
        CHECK.says("kept to 0 to 60");
        KettleChoir choir = CHECK.choir("tin 24 40 1 0;stove 40;");
        choir.put(0, 0);
        choir.minutes(3);
        CHECK.same("heat", choir.kettle(0, 5), 150);
        CHECK.same("the highest note", choir.kettle(0, 8), 24 + 7 + 5);
    }

    /** A kettle that sings this NOTE (1 to 31) in the second minute on a stove of POWER 30. */
    private static String singer(int note) {
        return note <= 24 ? "tin " + note + " 4 1 0;" : "tin " + (note - 7) + " 40 1 0;";
    }

    private static KettleChoir singing(String dishes, int... notes) {
        StringBuilder text = new StringBuilder(dishes);
        for (int note : notes) {
            text.append(singer(note)).append("stove 30;");
        }
        KettleChoir choir = CHECK.choir(text.toString());
        for (int k = 0; k < notes.length; k++) {
            choir.put(k, k);
        }
        choir.minutes(2);
        for (int k = 0; k < notes.length; k++) {
            CHECK.same("the note of kettle " + k, choir.kettle(k, 8), notes[k]);
        }
        return choir;
    }

    private static void stepsOfADish() {
        CHECK.says("of which some NOTE that is sung, and those so many STEPS higher, are all sung");
        for (int step = 1; step <= 24; step++) {
            for (int apart = step - 1; apart <= step + 1; apart++) {
                int due = apart == step ? 1 : 0;
                CHECK.same("dish " + step + " by " + apart, singing("dish " + step + ";", 1, 1 + apart).count(5), due);
                CHECK.same("dish " + step + " by " + apart + " the other way round",
                        singing("dish " + step + ";", 1 + apart, 1).count(5), due);
            }
        }
        CHECK.same("one alone", singing("dish 1;dish 24;", 9).count(5), 0);
        CHECK.same("two alike", singing("dish 1;dish 24;", 9, 9).count(5), 0);
    }

    private static void chordsOfSteps() {
        CHECK.says("and those so many STEPS higher, are all sung");
        CHECK.same("3 and 7 higher", singing("dish 3 7;dish 4 7;dish 7 3;", 9, 12, 16).count(5), 5);
        CHECK.same("4 and 7 higher", singing("dish 3 7;dish 4 7;dish 7 3;", 16, 13, 9).count(5), 2);
        CHECK.same("two of three", singing("dish 3 7;dish 3;dish 7;", 9, 12).count(5), 2);
        CHECK.same("three of four", singing("dish 3 7 10;dish 3 7;", 9, 12, 16).count(5), 2);
        CHECK.same("four", singing("dish 10 3 7;dish 3 7 11;", 9, 12, 16, 19).count(5), 1);
        CHECK.same("from its second note", singing("dish 4 7;", 9, 12, 16, 19).count(5), 1);
        CHECK.same("not those of the next dish", singing("dish 3 7 10;dish 24;", 9, 12, 16, 19).count(5), 1);
        CHECK.same("five dishes", singing("dish 3;dish 7 3;dish 11;dish 10 7 3;dish 1;", 9, 12, 16, 19).count(5), 11);
        CHECK.says("are a KITCHEN, all anew");
        KettleChoir anew = CHECK.choir("dish 24 23 22;dish 21 20;");
        Check.read(anew, "tin 9 4 1 0;tin 12 4 1 0;stove 30;stove 30;dish 3;dish 3;");
        anew.put(0, 0);
        anew.put(1, 1);
        anew.minutes(2);
        CHECK.same("not those of the kitchen ahead", anew.count(5), 3);
    }

    private static void readyStays() {
        CHECK.says("DISHES that aren't READY become so");
        KettleChoir choir = singing("dish 3;", 9, 12);
        CHECK.same("ready in the second minute", choir.dish(0, -2), 1);
        choir.minutes(1);
        CHECK.same("sung again", choir.count(4), 3);
        CHECK.same("ready since the second minute", choir.dish(0, -2), 1);
        choir.lift(0);
        choir.lift(1);
        choir.minutes(30);
        choir.minutes(30);
        CHECK.same("nobody sings", choir.count(4), 0);
        CHECK.same("ready still", choir.dish(0, -2), 1);
        CHECK.same("as a bit", choir.count(5), 1);
        CHECK.says("the MINUTE in which it became READY (0 the first; NONE: it isn't)");
        choir.undo();
        choir.undo();
        choir.undo();
        choir.undo();
        choir.undo();
        choir.undo();
        CHECK.same("undone: it isn't", choir.dish(0, -2), NONE);
        CHECK.same("undone: the minute", choir.count(3), 0);
        for (int d = 0; d < 5; d++) {
            KettleChoir five = singing("dish 5;".repeat(d) + "dish 3;" + "dish 5;".repeat(4 - d), 9, 12);
            five.minutes(1);
            CHECK.same("who sings again", five.count(4), 3);
            CHECK.same("only dish " + d + " is ready", five.count(5), 1 << d);
            for (int other = 0; other < 5; other++) {
                CHECK.same("since when dish " + other + " is", five.dish(other, -2), other == d ? 1 : NONE);
            }
        }
    }

    /** From the second minute on it sings at HEAT 100 and more: cups go in the minutes 3, 6, 9 .. alone. */
    private static void cupsInEveryThirdMinute() {
        CHECK.says("if the MINUTE MOD 3 is 0, each that SINGS loses a cup of its FILL");
        for (int waits = 0; waits <= 5; waits++) {
            KettleChoir choir = CHECK.choir("tin 5 40 9 0;tin 5 5 5 0;stove 40;stove 40;");
            for (int m = 0; m < waits; m++) {
                choir.minutes(1);
            }
            choir.put(0, 0);
            choir.put(1, 1);
            int fill = 9;
            for (int m = waits; m < waits + 14; m++) {
                choir.minutes(1);
                boolean sings = choir.count(4) == 1;
                CHECK.same("whether it sings in minute " + m, sings, m >= waits + 3);
                fill -= sings && (m == 3 || m == 6 || m == 9 || m == 12 || m == 15 || m == 18) ? 1 : 0;
                CHECK.same("the fill behind minute " + m, choir.kettle(0, 3), fill);
            }
            CHECK.same("who doesn't sing keeps its cups", choir.kettle(1, 3), 5);
            CHECK.same("though it is hot", choir.kettle(1, 5), 150);
        }
    }

    private static void chalkByTheLastCup() {
        CHECK.says("(CHALK is 1 more, to 9, if its FILL is 0 by that)");
        for (int chalk = 0; chalk <= 8; chalk++) {
            KettleChoir choir = CHECK.choir("tin 5 40 2 " + chalk + ";stove 40;");
            choir.put(0, 0);
            choir.minutes(3);
            CHECK.same("two cups", choir.kettle(0, 3), 2);
            choir.minutes(3);
            CHECK.same("one cup", choir.kettle(0, 3), 1);
            CHECK.same("chalk with a cup", choir.kettle(0, 4), chalk);
            choir.minutes(1);
            CHECK.same("no cup", choir.kettle(0, 3), 0);
            CHECK.same("chalk by that", choir.kettle(0, 4), chalk + 1);
            CHECK.same("it sang in that minute", choir.count(4), 1);
            choir.minutes(30);
            CHECK.same("no cup below none", choir.kettle(0, 3), 0);
            CHECK.same("no more chalk", choir.kettle(0, 4), chalk + 1);
        }
        KettleChoir poured = CHECK.choir("tin 5 20 5 0;stove 40;");
        poured.pour(0, 0);
        CHECK.same("chalk by pouring", poured.kettle(0, 4), 0);
    }

    private static void lidsFrom95() {
        CHECK.says("LIDS: KETTLES whose HEAT is 95 or more, as bits");
        for (int heat : new int[] {0, 93, 94, 95, 96, 99, 100, 149, 150}) {
            CHECK.same("lids at heat " + heat, full(heat).count(6), heat >= 95 ? 1 : 0);
        }
        KettleChoir off = full(96);
        off.lift(0);
        off.minutes(1);
        CHECK.same("heat", off.kettle(0, 5), 94);
        CHECK.same("off the stove", off.count(6), 0);
        KettleChoir poured = CHECK.choir("tin 9 40 35 9;" + STOVES);
        CHECK.heat(poured, 0, 98);
        CHECK.same("heat by another cup", poured.pour(0, 36), 95);
        CHECK.same("a lid by 95", poured.count(6), 1);
        CHECK.same("heat by one more", poured.pour(0, 37), 92);
        CHECK.same("no lid", poured.count(6), 0);
    }

    private static void taken() {
        CHECK.says("TAKEN for one that SINGS are those of them that don't");
        for (int heat = 94; heat <= 101; heat++) {
            KettleChoir choir = full(heat - 1);
            choir.pour(0, 4);
            choir.minutes(1);
            CHECK.same("heat", choir.kettle(0, 5), heat);
            CHECK.same("taken at heat " + heat, choir.count(7), heat >= 95 && heat < 100 ? 1 : 0);
            CHECK.same("taken at heat " + heat + ", too full", full(heat).count(7), heat >= 95 ? 1 : 0);
        }
    }

    private static void thirds3Or4() {
        CHECK.says("8 THIRDS: couples that sang 3 or 4 apart in it");
        for (int apart = 0; apart <= 6; apart++) {
            int due = apart == 3 || apart == 4 ? 1 : 0;
            CHECK.same("thirds by " + apart, singing("", 9, 9 + apart).count(8), due);
            CHECK.same("thirds by " + apart + " below", singing("", 9 + apart, 9).count(8), due);
        }
        CHECK.same("all couples", singing("", 9, 12, 16, 13).count(8), 4);
        CHECK.same("without a minute", CHECK.choir("tin 5 20 5 0;tin 8 20 5 0;").count(8), 0);
        // One that doesn't sing is no third of a low one, as it would be if its NOTE were -1 or 0.
        for (int note = 1; note <= 5; note++) {
            String low = "tin " + note + " 4 1 0;";
            for (String couple : new String[] {low + "tin 9 4 1 9;", "tin 9 4 1 9;" + low}) {
                KettleChoir choir = CHECK.choir(couple + "stove 30;stove 30;");
                choir.put(0, 0);
                choir.put(1, 1);
                choir.minutes(2);
                CHECK.same("singers of " + couple, Integer.bitCount(choir.count(4)), 1);
                CHECK.same("thirds of " + couple, choir.count(8), 0);
            }
        }
    }
}
