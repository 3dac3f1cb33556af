/** Promises 27 to 30: hear, chalk, listen, forget. */
public final class EarTest {
    private static final Check CHECK = new Check("EarTest");
    private static final int NONE = Check.NONE;

    public static void main(String[] args) {
        askedWrongly();
        hear();
        chalkOfOne();
        chalkOfTwo();
        heardTogether();
        fromNowOn();
        lastMinuteHeard();
        listen();
        listenToNotes();
        listenToEight();
        theCookDoesAsEver();
        forget();
        CHECK.end();
    }

    private static void askedWrongly() {
        KettleChoir choir = CHECK.choir("tin 5 20 5 0;stove 10;");
        for (int wrong : new int[] {-1, 3, Integer.MAX_VALUE, Integer.MIN_VALUE}) {
            CHECK.missing("chalk(" + wrong + ")", () -> choir.chalk(wrong));
        }
        for (int wrong : new int[] {-1, 2, Integer.MAX_VALUE, Integer.MIN_VALUE}) {
            CHECK.missing("listen(" + wrong + ")", () -> choir.listen(wrong));
        }
    }

    private static void hear() {
        KettleChoir choir = CHECK.choir("tin 5 20 5 0;stove 10;");
        int[][] wrong = {{0, 5}, {61, 5}, {-1, 5}, {5, -2}, {5, 61}, {Integer.MAX_VALUE, 5}, {Integer.MIN_VALUE, 5},
            {5, Integer.MAX_VALUE}, {5, Integer.MIN_VALUE}};
        for (int[] w : wrong) {
            CHECK.same("hear(" + w[0] + ", " + w[1] + ")", choir.hear(w[0], w[1]), NONE);
        }
        CHECK.same("status 2", choir.count(14), wrong.length);
        CHECK.same("heard", choir.count(10), 0);
        int[][] right = {{1, 0}, {60, 60}, {60, NONE}, {1, NONE}, {1, NONE}, {30, 30}, {30, 31}, {2, 2}};
        for (int i = 0; i < right.length; i++) {
            CHECK.same("hear(" + right[i][0] + ", " + right[i][1] + ")", choir.hear(right[i][0], right[i][1]), i + 1);
            CHECK.same("heard", choir.count(10), i + 1);
        }
        CHECK.same("hear a ninth", choir.hear(1, NONE), NONE);
        CHECK.same("status 2", choir.count(14), wrong.length + 1);
        CHECK.same("other status", choir.count(12) + choir.count(13), 0);
        CHECK.same("heard", choir.count(10), 8);
        CHECK.same("no act", choir.count(9), 0);
    }

    private static void chalk(KettleChoir choir, int many, int first, int without) {
        CHECK.same("chalk(0)", choir.chalk(0), many);
        CHECK.same("chalk(1)", choir.chalk(1), first);
        CHECK.same("chalk(2)", choir.chalk(2), without);
    }

    /** It sings 8 less a third of its chalk in the 10th minute, and nothing with chalk 9. */
    private static void chalkOfOne() {
        KettleChoir choir = CHECK.choir("tin 5 20 5 0;stove 10;");
        choir.put(0, 0);
        chalk(choir, 9, 1, 1);
        choir.hear(10, 8);
        chalk(choir, 2, 1, 1);
        choir.forget();
        choir.hear(10, 7);
        chalk(choir, 3, 3, 0);
        choir.forget();
        choir.hear(10, 6);
        chalk(choir, 3, 6, 0);
        choir.forget();
        choir.hear(10, NONE);
        chalk(choir, 1, 9, 0);
        choir.forget();
        choir.hear(9, NONE);
        chalk(choir, 9, 1, 1);
        choir.forget();
        choir.hear(10, 9);
        chalk(choir, 0, NONE, 0);
        CHECK.same("the chalk stays", choir.kettle(0, 4), 0);
        CHECK.same("the minute stays", choir.count(3), 0);
        CHECK.same("the note stays", choir.kettle(0, 8), NONE);
    }

    /** Notes 8 and 11: 9 less a third of chalk 3, and 12 less a third of chalk 4. */
    private static void chalkOfTwo() {
        KettleChoir choir = CHECK.choir("tin 6 20 5 3;tin 9 20 5 4;stove 10;stove 10;");
        choir.put(0, 0);
        choir.put(1, 1);
        chalk(choir, 18, 0, 1);
        choir.hear(10, 8);
        chalk(choir, 2 + 9, 4, 1);
        choir.hear(10, 11);
        chalk(choir, 2 + 2, 4, 1);
        choir.forget();
        choir.hear(10, 12);
        chalk(choir, 3, 10, 0);
        choir.forget();
        choir.hear(10, 9);
        chalk(choir, 3, 0, 0);
        choir.hear(10, 11);
        chalk(choir, 3, 0, 0);
        choir.hear(10, 12);
        chalk(choir, 0, NONE, 0);
        choir.forget();
        choir.hear(10, NONE);
        chalk(choir, 0, NONE, 0);
        choir.forget();
        choir.hear(10, 8);
        choir.hear(10, 8);
        choir.hear(10, 10);
        chalk(choir, 3, 16, 0);
    }

    /** All that is heard must be so by one and the same chalk. */
    private static void heardTogether() {
        KettleChoir choir = CHECK.choir("tin 5 20 5 0;stove 10;");
        choir.put(0, 0);
        choir.hear(10, 7);
        choir.hear(11, 8);
        choir.hear(23, NONE);
        chalk(choir, 3, 3, 0);
        choir.hear(12, 8);
        chalk(choir, 0, NONE, 0);
    }

    /** What is heard is told from now on, whenever it is asked for. */
    private static void fromNowOn() {
        KettleChoir choir = CHECK.choir("tin 5 20 5 0;stove 10;");
        choir.put(0, 0);
        choir.hear(1, 8);
        chalk(choir, 0, NONE, 0);
        choir.minutes(9);
        chalk(choir, 2, 1, 1);
        choir.minutes(1);
        chalk(choir, 3, 3, 0);
        choir.undo();
        chalk(choir, 2, 1, 1);
        choir.lift(0);
        chalk(choir, 0, NONE, 0);
    }

    private static void lastMinuteHeard() {
        KettleChoir choir = CHECK.choir("tin 5 40 30 0;stove 6;");
        choir.put(0, 0);
        choir.minutes(30);
        choir.minutes(10);
        CHECK.same("heat", choir.kettle(0, 5), 40);
        CHECK.same("the minute to listen in", choir.listen(0), 60);
        CHECK.same("choirs", choir.listen(1), 4);
        choir.hear(60, 7);
        chalk(choir, 2, 1, 1);
        choir.hear(59, NONE);
        chalk(choir, 2, 1, 1);
        choir.hear(58, 7);
        chalk(choir, 0, NONE, 0);
    }

    /** Without anything heard: 8, 7, 6 or nothing in the 10th minute; one choir ahead of it. */
    private static void listen() {
        KettleChoir choir = CHECK.choir("tin 5 20 5 0;stove 10;");
        CHECK.same("off the stove: the minute", choir.listen(0), 1);
        CHECK.same("off the stove: choirs", choir.listen(1), 1);
        choir.put(0, 0);
        CHECK.same("the minute", choir.listen(0), 10);
        CHECK.same("choirs", choir.listen(1), 4);
        choir.hear(10, 7);
        CHECK.same("the minute of three alike", choir.listen(0), 1);
        CHECK.same("one choir", choir.listen(1), 1);
        choir.hear(10, 8);
        CHECK.same("no minute", choir.listen(0), NONE);
        CHECK.same("no choir", choir.listen(1), 0);
        choir.forget();
        choir.minutes(8);
        CHECK.same("the minute from minute 8 on", choir.listen(0), 2);
        choir.scrape(0);
        choir.undo();
        CHECK.same("the minute again", choir.listen(0), 10);
    }

    /** Which notes are sung at all: 8 by both is as 8 by one, and chalk 9 of one leaves the other's. */
    private static void listenToNotes() {
        KettleChoir choir = CHECK.choir("tin 5 20 5 0;tin 5 20 5 0;stove 10;stove 10;");
        choir.put(0, 0);
        choir.put(1, 1);
        CHECK.same("the minute", choir.listen(0), 10);
        // {8} by chalk 1, 2 and 9; {7, 8}; {6, 8}; whichever kettle has it
        CHECK.same("choirs", choir.listen(1), 3);
        choir.hear(10, 8);
        CHECK.same("choirs with 8", choir.listen(1), 3);
        choir.hear(10, 7);
        CHECK.same("choirs with 8 and 7", choir.listen(1), 1);
        CHECK.same("by so many", choir.chalk(0), 6);
    }

    /** All eight sing, 3 apart: as it is, and for each one that is 1 or 2 lower or doesn't sing. */
    private static void listenToEight() {
        StringBuilder text = new StringBuilder("stove 40;stove 40;stove 40;stove 40;");
        for (int k = 0; k < 8; k++) {
            text.append("enamel ").append(3 * k + 3).append(" 20 5 0;");
        }
        KettleChoir choir = CHECK.choir(text.toString());
        for (int turn = 0; turn < 2; turn++) {
            for (int s = 0; s < 4; s++) {
                choir.lift(s);
                choir.put(4 * turn + s, s);
            }
            choir.minutes(4);
        }
        CHECK.same("all eight sing", choir.count(4), 255);
        CHECK.same("by so many", choir.chalk(0), 72);
        CHECK.same("choirs", choir.listen(1), 1 + 3 * 8);
        CHECK.same("the minute", choir.listen(0), 1);
    }

    /** With chalk the rule lifts it off in the first minute: it never sings then. */
    private static void theCookDoesAsEver() {
        KettleChoir choir = CHECK.choir("tin 5 20 5 0;stove 10;lifts 1<chalk and heat<50;");
        choir.put(0, 0);
        choir.hear(10, 8);
        chalk(choir, 1, 1, 1);
        choir.forget();
        choir.hear(10, NONE);
        chalk(choir, 8, 2, 0);
    }

    private static void forget() {
        KettleChoir choir = CHECK.choir("tin 5 20 5 0;stove 10;");
        choir.hear(5, 5);
        choir.hear(0, 5);
        choir.minutes(3);
        CHECK.same("without", choir.chalk(2), 0);
        CHECK.same("by none", choir.chalk(0), 0);
        choir.forget();
        CHECK.same("by all", choir.chalk(0), 9);
        CHECK.same("a minute to listen in", choir.listen(0), 1);
        CHECK.same("heard", choir.count(10), 0);
        CHECK.same("without", choir.chalk(2), 1);
        CHECK.same("status 2 stays", choir.count(14), 1);
        CHECK.same("acts stay", choir.count(9), 1);
        CHECK.same("hear again", choir.hear(5, NONE), 1);
        choir.forget();
        choir.forget();
        CHECK.same("forgotten twice", choir.count(10), 0);
    }
}
