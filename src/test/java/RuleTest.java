/** LIFTS: what an EXPR gives, what its VALUES are, and whom the cook lifts off. */
public final class RuleTest {
    private static final Check CHECK = new Check("RuleTest");
    private static final int NONE = Check.NONE;

    public static void main(String[] args) {
        arithmetic();
        tests();
        moreThanNothing();
        values();
        singersAndThirds();
        chalkAndFillBehindBoiling();
        onlyThoseOnStoves();
        longest();
        CHECK.end();
    }

    /** Whether a kettle of HEAT 10, FILL 5, CHALK 2 that doesn't sing is lifted off by a rule. */
    private static boolean lifts(String rule) {
        KettleChoir choir = CHECK.choir("tin 5 20 5 2;stove 10;lifts " + rule + ";");
        choir.put(0, 0);
        choir.minutes(1);
        return choir.kettle(0, 6) == NONE;
    }

    private static void gives(String rule, int due) {
        String wanted = due < 0 ? "0-" + -due : "" + due;
        CHECK.holds(rule + " gives " + due, lifts("(" + rule + ")=" + wanted));
        CHECK.holds(rule + " gives no other", !lifts("not (" + rule + ")=" + wanted));
    }

    private static void arithmetic() {
        gives("7", 7);
        gives("0009", 9);
        gives("1+2*3", 7);
        gives("(1+2)*3", 9);
        gives("9-3-2", 4);
        gives("9-(3-2)", 8);
        gives("100/7/2", 7);
        gives("7/2*2", 6);
        gives("2*7/2", 7);
        gives("1-2*3+4", -1);
        gives("7/0", 0);
        gives("7/0+3", 3);
        gives("(0-7)/2", -3);
        gives("7/(0-2)", -3);
        gives("(0-7)/(0-2)", 3);
        // 9999 * 9999 * 99 is 9898020099, and wraps to 1308085507.
        gives("9999*9999*99/1000/1000", 1308);
        gives("9999*9999*99-9999*9999*99/1000*1000", 507);
        // 65536 * 32768 is the least int; by -1 it stays so, and less 1 it is the highest.
        CHECK.holds("the least int by -1 wraps", lifts("256*256*256*128/(0-1)<0"));
        CHECK.holds("the least int less 1 wraps", lifts("256*256*256*128-1"));
        CHECK.holds("the highest int and 1 wraps", !lifts("(256*256*256*128-1)+1"));
    }

    private static void tests() {
        gives("1<2", 1);
        gives("2<2", 0);
        gives("3<2", 0);
        gives("2=2", 1);
        gives("2=3", 0);
        gives("1+1=2*1", 1);
        gives("0-1<0", 1);
        gives("not 0", 1);
        gives("not 5", 0);
        gives("not not 5", 1);
        gives("not 1<2", 0);
        gives("not 1=2", 1);
        gives("not 3+1=4", 0);
        gives("2 and 4", 1);
        gives("2 and 0", 0);
        gives("0 and 2", 0);
        gives("0-1 and 0-1", 1);
        gives("0 or 0", 0);
        gives("0 or 0-3", 1);
        gives("4 or 0", 1);
        gives("1 or 0 and 0", 1);
        gives("(1 or 0) and 0", 0);
        gives("0 and 0 or 1", 1);
        gives("not 0 and 0", 0);
        gives("not (0 and 0)", 1);
        gives("not 0 or 1", 1);
        gives("(1<2)+(2<3)+(3=3)*5", 7);
        gives("(1<2)<2", 1);
        gives("not not not not not not 7", 1);
    }

    private static void moreThanNothing() {
        CHECK.holds("1 lifts", lifts("1"));
        CHECK.holds("0 doesn't", !lifts("0"));
        CHECK.holds("-1 doesn't", !lifts("0-1"));
        CHECK.holds("9999 lifts", lifts("9999"));
        KettleChoir choir = CHECK.choir("tin 5 20 5 2;stove 10;");
        choir.put(0, 0);
        choir.minutes(9);
        CHECK.same("without a rule none is lifted off", choir.kettle(0, 6), 0);
    }

    private static void values() {
        gives("heat", 10);
        gives("fill", 5);
        gives("chalk", 2);
        gives("note", 0);
        gives("sung", 0);
        gives("third", 0);
        gives("singers", 0);
        // It sings 8 to 13 from the 10th minute on, its fill being 4 behind that; see StateTest.
        liftedIn("note=8", 10);
        liftedIn("note", 10);
        liftedIn("11<note", 14);
        liftedIn("sung=1", 10);
        liftedIn("sung/4", 13);
        liftedIn("singers", 10);
        liftedIn("149<heat", 15);
        liftedIn("fill<5", 10);
        liftedIn("chalk", 22);
        liftedIn("heat=100 and fill=4", 10);
        liftedIn("heat=100 and fill=5", NONE);
        liftedIn("third", NONE);
    }

    private static void liftedIn(String rule, int due) {
        KettleChoir choir = CHECK.choir("tin 5 20 5 0;stove 10;lifts " + rule + ";");
        choir.put(0, 0);
        int minute = NONE;
        for (int m = 1; m <= 30 && minute == NONE; m++) {
            choir.minutes(1);
            minute = choir.kettle(0, 6) == NONE ? m : NONE;
        }
        CHECK.same("the minute in which " + rule + " lifts", minute, due);
    }

    /** Notes 4, 7, 11 and 16, all in the second minute: 4 and 7 have a third above them. */
    private static void singersAndThirds() {
        String kettles = "tin 4 4 1 0;tin 7 4 1 0;tin 11 4 1 0;tin 16 4 1 0;stove 30;stove 30;stove 30;stove 30;";
        CHECK.same("whom third lifts", left(kettles + "lifts third;"), 12);
        CHECK.same("whom third=1 lifts", left(kettles + "lifts third=1;"), 12);
        CHECK.same("whom sung=1 and note<10 lifts", left(kettles + "lifts sung=1 and note<10;"), 12);
        CHECK.same("whom chalk=3 lifts", left("tin 4 4 1 0;tin 7 4 1 3;tin 11 4 1 2;tin 16 4 1 3;stove 30;stove 30;"
                + "stove 30;stove 30;lifts chalk=3;"), 5);
        CHECK.same("whom singers=4 lifts: all, whoever was lifted off ahead", left(kettles + "lifts singers=4;"), 0);
        CHECK.same("whom singers<4 and note lifts", left(kettles + "lifts singers<4 and note;"), 15);
        CHECK.same("whom note=11 or note=4 lifts", left(kettles + "lifts note=11 or note=4;"), 10);
        CHECK.same("whom sung=2 lifts", left(kettles + "lifts sung=2;"), 15);
        String full = "tin 4 4 1 0;tin 7 4 4 0;tin 9 4 1 0;tin 6 4 1 0;stove 30;stove 30;stove 30;stove 30;";
        CHECK.same("one that doesn't sing is no third", left(full + "lifts third;"), 15 - 8);
        String alike = "tin 4 4 1 0;tin 4 4 1 0;tin 8 4 1 0;tin 9 4 1 0;stove 30;stove 30;stove 30;stove 30;";
        CHECK.same("4 higher is a third, 5 and 1 not", left(alike + "lifts third;"), 12);
    }

    /** Who of four is still on its stove behind two minutes, as bits. */
    private static int left(String text) {
        KettleChoir choir = CHECK.choir(text);
        for (int k = 0; k < 4; k++) {
            choir.put(k, k);
        }
        choir.minutes(2);
        int bits = 0;
        for (int k = 0; k < 4; k++) {
            bits |= choir.kettle(k, 6) == NONE ? 0 : 1 << k;
        }
        return bits;
    }

    /** HEAT 150 in the 4th minute, MINUTE 3: the last cup goes, and CHALK comes, ahead of the cook. */
    private static void chalkAndFillBehindBoiling() {
        KettleChoir choir = CHECK.choir("tin 5 20 1 0;stove 40;lifts fill=0 and chalk=1 and note and sung=3;");
        choir.put(0, 0);
        choir.minutes(3);
        CHECK.same("it sings in minute 2", choir.kettle(0, 7), 2);
        CHECK.same("it is still on", choir.kettle(0, 6), 0);
        choir.minutes(1);
        CHECK.same("it is lifted off in minute 3", choir.kettle(0, 6), NONE);
        CHECK.same("having sung in it", choir.count(4), 1);
    }

    private static void onlyThoseOnStoves() {
        KettleChoir choir = CHECK.choir("tin 5 20 5 0;tin 5 20 5 0;tin 5 20 5 0;stove 10;stove 10;lifts 1;");
        choir.put(2, 0);
        choir.put(1, 1);
        choir.minutes(1);
        for (int k = 0; k < 3; k++) {
            CHECK.same("kettle " + k + " is off", choir.kettle(k, 6), NONE);
            CHECK.same("heat of kettle " + k, choir.kettle(k, 5), k == 0 ? 0 : 10);
        }
        CHECK.same("no act but three", choir.count(9), 3);
        CHECK.same("undone", choir.undo(), 2);
        CHECK.same("on again", choir.stove(0, 1), 2);
    }

    /** As much as can wait at once: five parts in each of six EXPRs. */
    private static void longest() {
        String left = "0 or 1 and 0<0+1*(";
        String rule = left.repeat(5) + "0 or 1 and 0<0+1*1" + ")".repeat(5);
        CHECK.holds("the deepest rule", lifts(rule));
        StringBuilder sum = new StringBuilder("0");
        while (sum.length() < 500) {
            sum.append("+1");
        }
        CHECK.holds("a long sum", lifts(sum + "=250"));
        StringBuilder many = new StringBuilder();
        for (int i = 0; i < 40; i++) {
            many.append("not not not ");
        }
        CHECK.same("too many nots", Check.read(new KettleChoir(), "lifts " + many + "1;"), 2);
    }
}
