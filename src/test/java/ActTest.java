/** Promises 9 to 14: minutes, put, lift, pour, scrape, undo. */
public final class ActTest {
    private static final Check CHECK = new Check("ActTest");
    private static final int NONE = Check.NONE;

    public static void main(String[] args) {
        minutes();
        lastMinute();
        minutesAreOneByOne();
        put();
        lift();
        pour();
        scrape();
        undo();
        undoMinutes();
        fortyActs();
        CHECK.end();
    }

    private static void refused(KettleChoir choir, int status, int acts) {
        CHECK.same("refused acts", choir.count(13), status);
        CHECK.same("acts that are kept", choir.count(9), acts);
        CHECK.same("other refused calls", choir.count(12) + choir.count(14), 0);
    }

    private static void minutes() {
        KettleChoir choir = CHECK.choir("tin 5 20 5 0;stove 10;");
        int status = 0;
        for (int wrong : new int[] {0, -1, 31, Integer.MIN_VALUE, Integer.MAX_VALUE}) {
            CHECK.same("minutes(" + wrong + ")", choir.minutes(wrong), NONE);
            status++;
        }
        refused(choir, status, 0);
        CHECK.same("the minute", choir.count(3), 0);
        CHECK.same("minutes(1)", choir.minutes(1), 1);
        CHECK.same("minutes(30)", choir.minutes(30), 31);
        CHECK.same("the minute then", choir.count(3), 31);
        refused(choir, status, 2);
    }

    private static void lastMinute() {
        KettleChoir choir = CHECK.choir("tin 5 20 5 0;stove 10;");
        for (int i = 1; i <= 333; i++) {
            choir.minutes(30);
        }
        CHECK.same("the minute", choir.count(3), 9990);
        CHECK.same("minutes(10) above 9999", choir.minutes(10), NONE);
        refused(choir, 1, 40);
        CHECK.same("minutes(9)", choir.minutes(9), 9999);
        CHECK.same("minutes(1) above 9999", choir.minutes(1), NONE);
        refused(choir, 2, 40);
        CHECK.same("put in the last minute", choir.put(0, 0), true);
        CHECK.same("what would be sung", choir.sung(0), 10);
    }

    private static void minutesAreOneByOne() {
        String text = "tin 5 20 5 0;copper 9 30 7 2;stove 10;stove 30;dish 3;dish 5;lifts 8<sung;";
        KettleChoir slow = CHECK.choir(text);
        KettleChoir fast = CHECK.choir(text);
        for (KettleChoir choir : new KettleChoir[] {slow, fast}) {
            choir.put(0, 0);
            choir.put(1, 1);
        }
        fast.minutes(30);
        for (int m = 0; m < 30; m++) {
            slow.minutes(1);
        }
        for (int what = 0; what <= 8; what++) {
            CHECK.same("count(" + what + ")", fast.count(what), slow.count(what));
            CHECK.same("kettle(0, " + what + ")", fast.kettle(0, what), slow.kettle(0, what));
            CHECK.same("kettle(1, " + what + ")", fast.kettle(1, what), slow.kettle(1, what));
        }
        CHECK.same("acts of the fast one", fast.count(9), 3);
    }

    private static void put() {
        KettleChoir choir = CHECK.choir("tin 5 20 5 0;tin 5 20 5 0;stove 10;stove 10;");
        CHECK.missing("put(-1, 0)", () -> choir.put(-1, 0));
        CHECK.missing("put(2, 0)", () -> choir.put(2, 0));
        CHECK.missing("put(0, -1)", () -> choir.put(0, -1));
        CHECK.missing("put(0, 2)", () -> choir.put(0, 2));
        refused(choir, 0, 0);
        CHECK.same("put(0, 0)", choir.put(0, 0), true);
        CHECK.same("put(1, 0)", choir.put(1, 0), false);
        CHECK.same("put(0, 0) once more", choir.put(0, 0), false);
        refused(choir, 2, 1);
        CHECK.missing("put(0, 2), though refused", () -> choir.put(0, 2));
        CHECK.missing("put(2, 0), though there is one on it", () -> choir.put(2, 0));
        refused(choir, 2, 1);
        CHECK.same("put(0, 1) from another one", choir.put(0, 1), true);
        CHECK.same("the stove of kettle 0", choir.kettle(0, 6), 1);
        CHECK.same("stove 0 is free", choir.stove(0, 1), NONE);
        CHECK.same("put(1, 0)", choir.put(1, 0), true);
        CHECK.same("stove 0", choir.stove(0, 1), 1);
        CHECK.same("stove 1", choir.stove(1, 1), 0);
        refused(choir, 2, 3);
    }

    private static void lift() {
        KettleChoir choir = CHECK.choir("tin 5 20 5 0;tin 5 20 5 0;stove 10;stove 10;");
        CHECK.missing("lift(-1)", () -> choir.lift(-1));
        CHECK.missing("lift(2)", () -> choir.lift(2));
        CHECK.same("lift(0) off nothing", choir.lift(0), NONE);
        refused(choir, 1, 0);
        choir.put(0, 1);
        CHECK.same("lift(0)", choir.lift(0), 1);
        CHECK.same("its stove then", choir.kettle(0, 6), NONE);
        CHECK.same("the stove's kettle then", choir.stove(1, 1), NONE);
        CHECK.same("lift(0) again", choir.lift(0), NONE);
        refused(choir, 2, 2);
    }

    private static void pour() {
        KettleChoir choir = CHECK.choir("tin 5 20 5 0;tin 5 20 0 0;stove 10;stove 10;");
        CHECK.missing("pour(-1, 3)", () -> choir.pour(-1, 3));
        CHECK.missing("pour(2, 3)", () -> choir.pour(2, 3));
        int status = 0;
        for (int wrong : new int[] {-1, 21, 5, Integer.MIN_VALUE, Integer.MAX_VALUE}) {
            CHECK.same("pour(0, " + wrong + ")", choir.pour(0, wrong), NONE);
            status++;
        }
        refused(choir, status, 0);
        choir.put(0, 0);
        choir.put(1, 1);
        choir.minutes(7);
        CHECK.same("heat", choir.kettle(0, 5), 70);
        CHECK.same("more: 70 * 5 / 8", choir.pour(0, 8), 43);
        CHECK.same("the fill", choir.kettle(0, 3), 8);
        CHECK.same("the heat", choir.kettle(0, 5), 43);
        CHECK.same("less", choir.pour(0, 3), 43);
        CHECK.same("all", choir.pour(0, 0), 43);
        CHECK.same("from nothing", choir.pour(0, 20), 0);
        CHECK.same("heat of the empty one", choir.kettle(1, 5), 140);
        CHECK.same("from nothing", choir.pour(1, 1), 0);
        choir.minutes(1);
        CHECK.same("the other one's heat", choir.kettle(1, 5), 16);
        CHECK.same("more: 16 * 1 / 3", choir.pour(1, 3), 5);
        CHECK.same("it is still on its stove", choir.kettle(1, 6), 1);
        refused(choir, status, 10);
    }

    private static void scrape() {
        KettleChoir choir = CHECK.choir("tin 5 20 5 9;tin 5 20 5 0;stove 10;");
        CHECK.missing("scrape(-1)", () -> choir.scrape(-1));
        CHECK.missing("scrape(2)", () -> choir.scrape(2));
        CHECK.same("scrape(1) without chalk", choir.scrape(1), NONE);
        choir.put(0, 0);
        CHECK.same("scrape(0) on a stove", choir.scrape(0), NONE);
        refused(choir, 2, 1);
        CHECK.same("its chalk stays", choir.kettle(0, 4), 9);
        choir.lift(0);
        CHECK.same("scrape(0)", choir.scrape(0), 9);
        CHECK.same("its chalk then", choir.kettle(0, 4), 0);
        CHECK.same("scrape(0) again", choir.scrape(0), NONE);
        refused(choir, 3, 3);
    }

    private static void undo() {
        KettleChoir choir = CHECK.choir("tin 5 20 5 4;stove 10;stove 10;");
        CHECK.same("undo() of nothing", choir.undo(), NONE);
        refused(choir, 0, 0);
        choir.scrape(0);
        choir.put(0, 0);
        choir.put(0, 1);
        choir.minutes(4);
        choir.pour(0, 10);
        choir.lift(0);
        choir.hear(3, 3);
        CHECK.same("heat", choir.kettle(0, 5), 20);
        CHECK.same("undo lift", choir.undo(), 5);
        CHECK.same("on stove 1", choir.kettle(0, 6), 1);
        CHECK.same("undo pour", choir.undo(), 4);
        CHECK.same("fill", choir.kettle(0, 3), 5);
        CHECK.same("heat", choir.kettle(0, 5), 40);
        CHECK.same("undo minutes", choir.undo(), 3);
        CHECK.same("heat", choir.kettle(0, 5), 0);
        CHECK.same("minute", choir.count(3), 0);
        CHECK.same("undo put", choir.undo(), 2);
        CHECK.same("on stove 0", choir.kettle(0, 6), 0);
        CHECK.same("undo put", choir.undo(), 1);
        CHECK.same("on none", choir.kettle(0, 6), NONE);
        CHECK.same("undo scrape", choir.undo(), 0);
        CHECK.same("chalk", choir.kettle(0, 4), 4);
        CHECK.same("undo nothing", choir.undo(), NONE);
        CHECK.same("what is heard stays", choir.count(10), 1);
        refused(choir, 0, 0);
    }

    /** What was sung, who is ready, and whom the cook lifted, are undone, too. */
    private static void undoMinutes() {
        KettleChoir choir = CHECK.choir("tin 5 20 5 0;tin 8 20 5 0;stove 10;stove 10;dish 3;lifts 2<sung;");
        choir.put(0, 0);
        choir.put(1, 1);
        choir.minutes(9);
        choir.minutes(1);
        CHECK.same("who sang", choir.count(4), 3);
        choir.minutes(8);
        CHECK.same("lifted off", choir.kettle(0, 6), NONE);
        CHECK.same("sung", choir.kettle(0, 7), 9);
        CHECK.same("undo", choir.undo(), 4);
        CHECK.same("on again", choir.kettle(0, 6), 0);
        CHECK.same("sung once", choir.kettle(0, 7), 1);
        CHECK.same("the note", choir.kettle(0, 8), 8);
        CHECK.same("the fill", choir.kettle(0, 3), 4);
        CHECK.same("the dish", choir.dish(0, -2), 9);
        CHECK.same("undo", choir.undo(), 3);
        CHECK.same("not sung", choir.kettle(0, 7), 0);
        CHECK.same("no note", choir.kettle(0, 8), NONE);
        CHECK.same("the fill", choir.kettle(0, 3), 5);
        CHECK.same("no dish", choir.dish(0, -2), NONE);
        CHECK.same("nobody sang", choir.count(4), 0);
        CHECK.same("quiet() when the last cup is gone", choir.quiet(), 14);
    }

    private static void fortyActs() {
        KettleChoir choir = CHECK.choir("tin 5 40 1 0;");
        for (int i = 2; i <= 40; i++) {
            choir.pour(0, i);
        }
        CHECK.same("39 acts", choir.count(9), 39);
        choir.pour(0, 20);
        CHECK.same("40 acts", choir.count(9), 40);
        choir.pour(0, 21);
        choir.pour(0, 22);
        CHECK.same("40 acts are kept", choir.count(9), 40);
        int[] back = {21, 20};
        for (int i = 0; i < 40; i++) {
            CHECK.same("undo " + i, choir.undo(), 39 - i);
            CHECK.same("the fill behind undo " + i, choir.kettle(0, 3), i < 2 ? back[i] : 42 - i);
        }
        CHECK.same("no more", choir.undo(), NONE);
        CHECK.same("the two first acts stay", choir.kettle(0, 3), 3);
        choir.pour(0, 9);
        CHECK.same("an act behind them", choir.count(9), 1);
        CHECK.same("undone", choir.undo(), 0);
        CHECK.same("as it was", choir.kettle(0, 3), 3);
    }
}
