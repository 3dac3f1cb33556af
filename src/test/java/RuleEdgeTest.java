/** The document's bounds of an EXPR (==== 1): what it gives, its VALUES, and whom the cook lifts off by it (==== 2). */
public final class RuleEdgeTest {
    private static final Check CHECK = new Check("RuleEdgeTest");
    private static final int NONE = Check.NONE;
    private static final String LEAST = "(256*256*256*128)";
    private static final String HIGHEST = "(256*256*256*128-1)";

    public static void main(String[] args) {
        moreThan0();
        without();
        fromTheLeft();
        wraps();
        cutDownTo0();
        byNothing();
        tests();
        whatHolds();
        noteOrNothing();
        sungSoFar();
        thirdOrNothing();
        singers();
        asTheyAreByThen();
        fromKettleToKettle();
        deepest();
        CHECK.end();
    }

    /** Whether a rule lifts a kettle of HEAT 10, FILL 5, CHALK 2 off that doesn't sing. */
    private static boolean lifts(String rule) {
        KettleChoir choir = CHECK.choir("tin 5 20 5 2;stove 10;lifts " + rule + ";");
        choir.put(0, 0);
        choir.minutes(1);
        return choir.kettle(0, 6) == NONE;
    }

    private static String told(int value) {
        return value >= 0 ? "" + value : "(0-" + -value + ")";
    }

    private static void gives(String rule, int due) {
        CHECK.same(rule + " is " + due, lifts("(" + rule + ")=" + told(due)), true);
        CHECK.same(rule + " is below " + (due + 1), lifts("(" + rule + ")<" + told(due + 1)), true);
        CHECK.same(rule + " is below " + due, lifts("(" + rule + ")<" + told(due)), false);
    }

    private static void moreThan0() {
        CHECK.says("each is lifted off, for which LIFTS gives more than 0");
        CHECK.same("-1", lifts("0-1"), false);
        CHECK.same("0", lifts("0"), false);
        CHECK.same("1", lifts("1"), true);
        CHECK.same("2", lifts("2"), true);
        CHECK.same("9999", lifts("9999"), true);
        CHECK.same("the least int", lifts(LEAST), false);
        CHECK.same("the highest int", lifts(HIGHEST), true);
    }

    private static void without() {
        CHECK.says("(.. without a rule none)");
        KettleChoir choir = CHECK.choir("tin 5 20 5 2;stove 40;");
        choir.put(0, 0);
        choir.minutes(30);
        CHECK.same("its stove", choir.kettle(0, 6), 0);
        KettleChoir again = CHECK.choir("tin 5 20 5 2;stove 40;lifts 1;");
        Check.read(again, "tin 5 20 5 2;stove 40;");
        again.put(0, 0);
        again.minutes(1);
        CHECK.same("its stove, when the kitchen ahead had a rule", again.kettle(0, 6), 0);
    }

    private static void fromTheLeft() {
        CHECK.says("From the left");
        gives("9-3-2", 4);
        gives("9-3+2", 8);
        gives("100/7/2", 7);
        gives("7/2*2", 6);
        gives("7*2/4", 3);
        gives("8-6/2", 5);
        gives("2+3*4", 14);
        gives("1 or 0 and 0", 1);
        gives("0 and 0 or 1", 1);
        gives("not 0 and 0", 0);
        gives("not 1 or 1", 1);
    }

    private static void wraps() {
        CHECK.says("ints that wrap");
        CHECK.same("the highest int is more than 0", lifts("0<" + HIGHEST), true);
        CHECK.same("the highest and 1", lifts(HIGHEST + "+1=" + LEAST), true);
        CHECK.same("the highest and 0", lifts(HIGHEST + "+0=" + LEAST), false);
        CHECK.same("the least less 1", lifts(LEAST + "-1=" + HIGHEST), true);
        CHECK.same("nothing less the least", lifts("0-" + LEAST + "=" + LEAST), true);
        CHECK.same("the least by -1", lifts(LEAST + "*(0-1)=" + LEAST), true);
        CHECK.same("the least by 2", lifts(LEAST + "*2=0"), true);
        CHECK.same("the highest by 2", lifts(HIGHEST + "*2=0-2"), true);
        CHECK.same("the least over -1", lifts(LEAST + "/(0-1)=" + LEAST), true);
        CHECK.same("65536 by 65536", lifts("256*256*256*256=0"), true);
    }

    private static void cutDownTo0() {
        CHECK.says("/ cut down to 0");
        gives("7/2", 3);
        gives("(0-7)/2", -3);
        gives("7/(0-2)", -3);
        gives("(0-7)/(0-2)", 3);
        gives("1/2", 0);
        gives("(0-1)/2", 0);
        gives("8/8", 1);
        gives("7/8", 0);
        gives("(0-8)/8", -1);
        gives("(0-7)/8", 0);
    }

    private static void byNothing() {
        CHECK.says("by 0 gives 0");
        gives("7/0", 0);
        gives("0/0", 0);
        gives("(0-7)/0", 0);
        gives("7/(3-3)", 0);
        gives("7/note", 0);
        gives("7/0+4", 4);
        gives("7/0/0", 0);
        CHECK.same("the least by 0", lifts(LEAST + "/0=0"), true);
        CHECK.same("it isn't lifted off by that", lifts("7/0"), false);
    }

    private static void tests() {
        CHECK.says("tests .. are 1 or 0");
        gives("4<5", 1);
        gives("5<5", 0);
        gives("6<5", 0);
        gives("4=5", 0);
        gives("5=5", 1);
        gives("6=5", 0);
        gives("0-1<0", 1);
        gives("0-2<0-1", 1);
        gives("0-1<0-2", 0);
        gives(LEAST + "<" + HIGHEST, 1);
        gives(HIGHEST + "<" + LEAST, 0);
        gives(LEAST + "<0", 1);
        gives("0<" + LEAST, 0);
        gives(LEAST + "=" + HIGHEST, 0);
    }

    private static void whatHolds() {
        CHECK.says("not, and, or are 1 or 0 (what isn't 0 holds)");
        String[] hold = {"1", "2", "9999", "(0-1)", LEAST, HIGHEST};
        gives("not 0", 1);
        gives("0 and 0", 0);
        gives("0 or 0", 0);
        for (String value : hold) {
            gives("not " + value, 0);
            gives("not not " + value, 1);
            gives("0 or " + value, 1);
            gives(value + " or 0", 1);
            gives("0 and " + value, 0);
            gives(value + " and 0", 0);
            gives(value + " and " + value, 1);
            gives(value + " or " + value, 1);
        }
        gives("1 and 2", 1);
        gives("not 3<2", 1);
        gives("not 2<3", 0);
        gives("not not not not not not 0", 0);
        gives("not not not not not 0", 1);
    }

    /** FILL 1 by POWER 30: HEAT 50, 100 and 150; the first song is in the second minute. */
    private static int left(String rule, String kettles, int many) {
        KettleChoir choir = CHECK.choir(kettles + "stove 30;".repeat(many) + "lifts " + rule + ";");
        for (int k = 0; k < many; k++) {
            choir.put(k, k);
        }
        choir.minutes(2);
        int bits = 0;
        for (int k = 0; k < many; k++) {
            bits |= choir.kettle(k, 6) == NONE ? 0 : 1 << k;
        }
        return bits;
    }

    private static void noteOrNothing() {
        CHECK.says("'note' (0, if it doesn't sing)");
        CHECK.same("a note of 1", left("note=1", "tin 1 4 1 0;", 1), 0);
        CHECK.same("a note of 1 is no 0", left("note=0 and heat=100", "tin 1 4 1 0;", 1), 1);
        CHECK.same("a note of 0", left("note=0 and singers", "copper 1 4 1 0;", 1), 0);
        CHECK.same("no note", left("note=0 and heat=100", "tin 9 4 1 9;", 1), 0);
        CHECK.same("not below 0", left("note<0", "tin 9 4 1 9;", 1), 1);
    }

    private static void sungSoFar() {
        CHECK.says("'sung' (how many MINUTES it has sung so far, this one too)");
        CHECK.same("1 in the first", left("sung=1", "tin 9 4 1 0;", 1), 0);
        CHECK.same("0 ahead of it", left("heat=50 and sung=0", "tin 9 4 1 0;", 1), 0);
        CHECK.same("no 2", left("1<sung", "tin 9 4 1 0;", 1), 1);
        KettleChoir choir = CHECK.choir("tin 9 40 30 0;stove 40;lifts 2<sung;");
        choir.put(0, 0);
        choir.minutes(choir.sung(0));
        choir.minutes(1);
        CHECK.same("it has sung 2", choir.kettle(0, 7), 2);
        CHECK.same("still on", choir.kettle(0, 6), 0);
        choir.minutes(1);
        CHECK.same("it has sung 3", choir.kettle(0, 7), 3);
        CHECK.same("lifted off", choir.kettle(0, 6), NONE);
    }

    private static void thirdOrNothing() {
        CHECK.says("'third' (1, if it SINGS, and another one 3 or 4 higher, else 0)");
        for (int higher = -5; higher <= 6; higher++) {
            String kettles = "tin 9 4 1 0;tin " + (9 + higher) + " 4 1 0;";
            int due = higher == 3 || higher == 4 ? 2 : higher == -3 || higher == -4 ? 1 : 3;
            CHECK.same("who is left by one " + higher + " higher", left("third=1", kettles, 2), due);
            CHECK.same("whom third=0 leaves", left("third=0 and heat=100", kettles, 2), 3 - due);
        }
        CHECK.same("it doesn't sing itself", left("third", "tin 9 4 1 9;tin 12 4 1 0;", 2), 3);
        CHECK.same("the other one doesn't", left("third", "tin 9 4 1 0;tin 12 4 1 9;", 2), 3);
        CHECK.same("both are there, and it is 1", left("third=1", "tin 9 4 1 0;tin 12 4 1 0;tin 13 4 1 0;", 3), 6);
        CHECK.same("0 and 3", left("third", "copper 1 4 1 0;tin 3 4 1 0;", 2), 2);
        CHECK.same("0 and 4", left("third", "copper 1 4 1 8;tin 4 4 1 0;", 2), 2);
        CHECK.same("no note is not 3 below 2", left("third", "tin 9 4 1 9;tin 2 4 1 0;tin 3 4 1 0;", 3), 7);
    }

    private static void singers() {
        CHECK.says("'singers' (how many sing)");
        String singer = "tin 9 4 1 0;";
        for (int many = 0; many <= 4; many++) {
            String kettles = singer.repeat(many) + "tin 9 4 1 9;".repeat(4 - many);
            CHECK.same("whom singers=" + many + " lifts off", left("heat=100 and singers=" + many, kettles, 4), 0);
            CHECK.same("whom singers<" + many + " lifts off", left("heat=100 and singers<" + many, kettles, 4), 15);
        }
    }

    /** MINUTE 3 takes the last cup, and CHALK is 1 more, ahead of the cook; NOTE and who sings are as they were. */
    private static void asTheyAreByThen() {
        CHECK.says("(HEAT, FILL, CHALK as they are by then, who SINGS and NOTES as above, whoever was lifted off ahead ..)");
        // HEAT 66, 132, 150, 150.
        String[] rules = {"fill=0", "chalk=1", "fill=0 and chalk=1 and heat=150 and note=13 and sung=3 and singers=1"};
        for (String rule : rules) {
            KettleChoir choir = CHECK.choir("tin 5 20 1 0;stove 40;lifts " + rule + ";");
            choir.put(0, 0);
            choir.minutes(3);
            CHECK.same("ahead of its last cup: " + rule, choir.kettle(0, 6), 0);
            choir.minutes(1);
            CHECK.same("by its last cup: " + rule, choir.kettle(0, 6), NONE);
        }
        CHECK.same("thirds with one that was lifted off ahead",
                left("third or note=12", "tin 12 4 1 0;tin 9 4 1 0;", 2), 0);
        CHECK.same("singers with those that were lifted off ahead", left("singers=4", "tin 9 4 1 0;".repeat(4), 4), 0);
    }

    private static void fromKettleToKettle() {
        CHECK.says("of those on a STOVE each is lifted off");
        KettleChoir choir = CHECK.choir("tin 5 20 5 0;tin 5 20 5 3;tin 5 20 5 0;stove 10;stove 10;lifts chalk=0;");
        choir.put(1, 0);
        choir.put(2, 1);
        choir.minutes(1);
        CHECK.same("the one of chalk 3 is on", choir.stove(0, 1), 1);
        CHECK.same("the other one is off", choir.stove(1, 1), NONE);
        CHECK.same("no act of its own", choir.count(9), 3);
        CHECK.same("undone with the minute", choir.undo(), 2);
        CHECK.same("the other one is on", choir.stove(1, 1), 2);
    }

    /** As much as can stand open at once: six EXPRs with six nots, an or, an and, a test, a sum and a product each. */
    private static void deepest() {
        CHECK.says("of an EXPR within 6 others");
        String open = "0 or 1 and not not not not not not 0<0+1*(";
        String deep = open.repeat(5) + "0 or 1 and 0<0+1*1" + ")".repeat(5);
        CHECK.same("the deepest rule", lifts(deep), true);
        CHECK.same("the deepest rule, denied", lifts("not (" + "0 or 1 and 0<0+1*(".repeat(4) + "1" + ")".repeat(4) + ")"), false);
        CHECK.says("A TEXT of at most 600 bytes tells it.");
        String text = "tin 5 20 5 2;stove 10;lifts " + "1+".repeat(282) + "1=283 ;";
        CHECK.same("its length", text.length(), 599);
        KettleChoir choir = CHECK.choir(text);
        choir.put(0, 0);
        choir.minutes(1);
        CHECK.same("a sum of 283 ones lifts", choir.kettle(0, 6), NONE);
    }
}
