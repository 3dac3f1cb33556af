/** The document's bounds of what is HEARD, of games, evenings, STATUS and images (==== 4, promises 27 to 34). */
public final class HeardEdgeTest {
    private static final Check CHECK = new Check("HeardEdgeTest");
    private static final int NONE = Check.NONE;
    private static final int HEARD = 2;
    private static final int[] FAR = {Integer.MIN_VALUE, Integer.MAX_VALUE};
    private static final Twins BUSY = new Twins(CHECK, Twins::busy);

    public static void main(String[] args) {
        heard1To60();
        heardNoneTo60();
        heardAtMost8();
        heardInThatMinute();
        heardNoneIsNotNote0();
        chalkAnotherThanItHas();
        chalkFirst();
        chalkOfWhat();
        listen1To60();
        listenOfLikeOnes();
        listenWithoutAny();
        listenOfWhat();
        forget();
        game1Or2From();
        gameWithAThird();
        gameNone();
        gameRefused();
        evening0To90();
        eveningLifts();
        eveningOnTheFirstFreeStove();
        eveningOfNobody();
        eveningRefused();
        statusOfEach();
        imageInPlace();
        restoreAgain();
        restoreOf40Acts();
        restoreOf8Heard();
        restoreStatus();
        restoreNone();
        asksChangeNothing();
        CHECK.end();
    }

    private static void hears(int minutes, int note) {
        KettleChoir choir = CHECK.choir("tin 9 6 5 0;");
        CHECK.same("hear(" + minutes + ", " + note + ")", choir.hear(minutes, note), 1);
        CHECK.same("heard", choir.count(10), 1);
        CHECK.same("refused", choir.count(14), 0);
        CHECK.same("no act", choir.count(9), 0);
    }

    private static void refuses(int minutes, int note) {
        String call = "hear(" + minutes + ", " + note + ")";
        BUSY.refused(call, HEARD, choir -> CHECK.same(call, choir.hear(minutes, note), NONE));
    }

    private static void heard1To60() {
        CHECK.says("NONE (STATUS 2): .. not 1 to 60 MINUTES");
        for (int minutes : new int[] {1, 2, 59, 60}) {
            hears(minutes, 9);
        }
        for (int wrong : new int[] {-1, 0, 61, 62, FAR[0], FAR[1]}) {
            refuses(wrong, 9);
            refuses(wrong, NONE);
        }
    }

    private static void heardNoneTo60() {
        CHECK.says("NONE (STATUS 2): .. not NONE to 60");
        for (int note : new int[] {NONE, 0, 1, 59, 60}) {
            hears(1, note);
        }
        for (int wrong : new int[] {-2, -3, 61, 62, FAR[0], FAR[1]}) {
            refuses(1, wrong);
            refuses(60, wrong);
        }
        refuses(0, 61);
        refuses(61, -2);
    }

    private static void heardAtMost8() {
        CHECK.says("HEARD (at most 8) .. how much is. NONE (STATUS 2): there are 8");
        KettleChoir choir = CHECK.choir("tin 9 6 5 0;");
        for (int i = 1; i <= 8; i++) {
            CHECK.same("hear " + i, choir.hear(1, NONE), i);
            CHECK.same("heard", choir.count(10), i);
        }
        CHECK.same("the ninth", choir.hear(1, NONE), NONE);
        CHECK.same("the tenth, not 1 to 60 either", choir.hear(0, 61), NONE);
        CHECK.same("heard", choir.count(10), 8);
        CHECK.same("refused", choir.count(14), 2);
        Twins full = new Twins(CHECK, () -> {
            KettleChoir one = Twins.busy();
            for (int i = 0; i < 6; i++) {
                one.hear(2 + i, 15);
            }
            return one;
        });
        full.refused("the ninth", HEARD, one -> CHECK.same("hear", one.hear(1, 40), NONE));
        choir.forget();
        CHECK.same("the first again", choir.hear(1, NONE), 1);
    }

    /** FILL 5 gets as much HEAT as POWER is; it stands on the stove of POWER 1 at the end. */
    private static KettleChoir hot(int heat) {
        KettleChoir choir = CHECK.choir("tin 9 6 5 0;stove 40;stove 10;stove 1;");
        CHECK.heat(choir, 0, heat);
        return choir;
    }

    private static void isSo(KettleChoir choir, int minutes, int note, boolean due) {
        choir.forget();
        choir.hear(minutes, note);
        CHECK.same("whether " + note + " in " + minutes + " is so", choir.chalk(2), due ? 1 : 0);
    }

    private static void heardInThatMinute() {
        CHECK.says("that in so many MINUTES (1 to 60) from now on some KETTLE SINGS a NOTE (0 to 60), or none does");
        isSo(hot(98), 1, 9, false);
        isSo(hot(98), 1, NONE, true);
        isSo(hot(99), 1, 9, true);
        isSo(hot(99), 1, NONE, false);
        isSo(hot(99), 1, 8, false);
        isSo(hot(99), 1, 10, false);
        isSo(hot(40), 59, NONE, true);
        isSo(hot(40), 59, 9, false);
        isSo(hot(40), 60, 9, true);
        isSo(hot(40), 60, NONE, false);
        isSo(hot(39), 60, NONE, true);
        isSo(hot(39), 60, 9, false);
        isSo(hot(99), 1, 60, false);
    }

    private static void heardNoneIsNotNote0() {
        CHECK.says("some KETTLE SINGS a NOTE (0 to 60), or none does");
        KettleChoir choir = CHECK.choir("copper 1 4 1 8;tin 9 4 1 0;stove 30;stove 30;");
        isSo(choir, 2, 0, false);
        isSo(choir, 2, NONE, true);
        choir.put(0, 0);
        isSo(choir, 2, 0, true);
        isSo(choir, 2, NONE, false);
        isSo(choir, 1, NONE, true);
        isSo(choir, 1, 0, false);
        choir.put(1, 1);
        isSo(choir, 2, 0, true);
        isSo(choir, 2, 9, true);
        KettleChoir high = CHECK.choir("tin 24 40 1 0;stove 40;");
        high.put(0, 0);
        isSo(high, 3, 36, true);
        isSo(high, 3, 37, false);
        isSo(high, 3, 35, false);
    }

    private static void chalkAnotherThanItHas() {
        CHECK.says("KETTLES and CHALK (0 to 9, another than it has)");
        for (int chalk = 0; chalk <= 9; chalk++) {
            KettleChoir choir = CHECK.choir("tin 9 6 5 " + chalk + ";");
            CHECK.same("how many without " + chalk, choir.chalk(0), 9);
            CHECK.same("the first", choir.chalk(1), chalk == 0 ? 1 : 0);
            CHECK.same("without", choir.chalk(2), 1);
        }
        CHECK.same("of eight", CHECK.choir("tin 9 6 5 0;".repeat(8)).chalk(0), 72);
        CHECK.same("of nobody", new KettleChoir().chalk(0), 0);
        CHECK.same("the first of nobody", new KettleChoir().chalk(1), NONE);
        // It sings 9 less a third of its chalk: of each third of 0 to 8 but of its own all three fit, of its own two.
        for (int chalk = 0; chalk <= 8; chalk++) {
            KettleChoir choir = CHECK.choir("tin 9 4 1 " + chalk + ";stove 30;");
            choir.put(0, 0);
            for (int less = 0; less <= 2; less++) {
                choir.forget();
                choir.hear(2, 9 - less);
                boolean own = chalk / 3 == less;
                CHECK.same("how many sing " + (9 - less) + " but " + chalk, choir.chalk(0), own ? 2 : 3);
                CHECK.same("the first", choir.chalk(1), 3 * less + (chalk == 3 * less ? 1 : 0));
                CHECK.same("without", choir.chalk(2), own ? 1 : 0);
            }
            choir.forget();
            choir.hear(2, NONE);
            CHECK.same("how many sing nothing", choir.chalk(0), 1);
            CHECK.same("that of 9", choir.chalk(1), 9);
        }
        KettleChoir nine = CHECK.choir("tin 9 4 1 9;stove 30;");
        nine.put(0, 0);
        nine.hear(2, NONE);
        CHECK.same("none sing nothing but 9", nine.chalk(0), 0);
        CHECK.same("without", nine.chalk(2), 1);
    }

    private static void chalkFirst() {
        CHECK.says("the first (10 by the KETTLE and CHALK)");
        // Only the eighth is heated, and only by CHALK 9 it is still.
        KettleChoir last = CHECK.choir("tin 9 4 1 0;".repeat(8) + "stove 30;");
        last.put(7, 0);
        last.hear(2, NONE);
        CHECK.same("how many", last.chalk(0), 1);
        CHECK.same("the last that there is", last.chalk(1), 79);
        KettleChoir first = CHECK.choir("tin 9 4 1 3;tin 1 4 1 0;stove 30;");
        first.put(0, 0);
        first.hear(2, 9);
        CHECK.same("how many", first.chalk(0), 3);
        CHECK.same("the first that there is", first.chalk(1), 0);
        CHECK.same("without", first.chalk(2), 0);
        first.hear(2, 8);
        CHECK.same("how many sing both", first.chalk(0), 0);
        CHECK.same("none", first.chalk(1), NONE);
    }

    private static void chalkOfWhat() {
        CHECK.says("how many (what 0), the first (1; NONE: none), whether without (2). NoSuchElementException: another what.");
        for (int wrong : new int[] {-1, 3, 4, FAR[0], FAR[1]}) {
            BUSY.unchanged("chalk(" + wrong + ")", choir -> CHECK.missing("chalk", () -> choir.chalk(wrong)));
        }
    }

    private static void sounds(KettleChoir choir, int minute, int choirs) {
        CHECK.same("the minute to listen in", choir.listen(0), minute);
        CHECK.same("unlike choirs", choir.listen(1), choirs);
    }

    /** 9, 8, 7 or nothing, from the minute on in which it has 100. */
    private static void listen1To60() {
        CHECK.says("LISTEN: the MINUTE (1 to 60) in which these would sound most unlike");
        sounds(hot(38), 1, 1);
        sounds(hot(39), 1, 1);
        sounds(hot(40), 60, 4);
        sounds(hot(41), 59, 4);
        sounds(hot(98), 2, 4);
        sounds(hot(99), 1, 4);
    }

    private static void listenOfLikeOnes() {
        CHECK.says("(of like ones the first): how many unlike choirs (which NOTES are sung at all)");
        KettleChoir choir = hot(90);
        sounds(choir, 10, 4);
        choir.hear(10, 8);
        sounds(choir, 1, 1);
        choir.forget();
        // Only by CHALK 9 it is still, and by 1 to 8 it sings from 100 on.
        choir.hear(9, NONE);
        sounds(choir, 10, 4);
        choir.hear(10, NONE);
        sounds(choir, 1, 1);
        KettleChoir alike = CHECK.choir("tin 9 4 1 0;tin 9 4 1 0;stove 30;stove 30;");
        alike.put(0, 0);
        alike.put(1, 1);
        // {9} by chalk 1, 2 and 9; {8, 9}; {7, 9}
        sounds(alike, 2, 3);
    }

    private static void listenWithoutAny() {
        CHECK.says("none without any .. (what 0; NONE), how many (1; 0: none)");
        KettleChoir choir = hot(99);
        choir.hear(1, 60);
        sounds(choir, NONE, 0);
        choir.forget();
        sounds(choir, 1, 4);
        sounds(new KettleChoir(), NONE, 0);
        // It is so without, but by no other CHALK.
        KettleChoir nine = CHECK.choir("tin 9 4 1 9;stove 30;");
        nine.put(0, 0);
        nine.hear(2, NONE);
        sounds(nine, NONE, 0);
    }

    private static void listenOfWhat() {
        CHECK.says("NoSuchElementException: another what.");
        for (int wrong : new int[] {-1, 2, 3, FAR[0], FAR[1]}) {
            BUSY.unchanged("listen(" + wrong + ")", choir -> CHECK.missing("listen", () -> choir.listen(wrong)));
        }
    }

    private static void forget() {
        CHECK.says("All that is HEARD is forgotten.");
        for (int many = 0; many <= 8; many++) {
            KettleChoir choir = CHECK.choir("tin 9 6 5 0;");
            choir.hear(0, 0);
            for (int i = 0; i < many; i++) {
                choir.hear(1, 5);
            }
            CHECK.same("without, by " + many, choir.chalk(2), many == 0 ? 1 : 0);
            choir.forget();
            CHECK.same("heard", choir.count(10), 0);
            CHECK.same("without", choir.chalk(2), 1);
            CHECK.same("refused stays", choir.count(14), 1);
        }
        Twins nothing = new Twins(CHECK, () -> {
            KettleChoir choir = Twins.busy();
            choir.forget();
            return choir;
        });
        nothing.unchanged("forget() of nothing", choir -> choir.forget());
        nothing.unchanged("forget() of one", choir -> {
            choir.hear(60, 60);
            choir.forget();
        });
    }

    /** All of these NOTES (1 to 24) are sung in the second minute, which is the one ahead then. */
    private static KettleChoir singing(int... notes) {
        StringBuilder text = new StringBuilder();
        for (int note : notes) {
            text.append(note == 0 ? "copper 1 4 1 0;stove 30;" : "tin " + note + " 4 1 0;stove 30;");
        }
        KettleChoir choir = CHECK.choir(text.toString());
        for (int k = 0; k < notes.length; k++) {
            choir.put(k, k);
        }
        choir.minutes(2);
        for (int k = 0; k < notes.length; k++) {
            CHECK.same("the note of " + k, choir.kettle(k, 8), notes[k]);
        }
        return choir;
    }

    private static void rests(KettleChoir choir, int kettle, int other, int many, int first) {
        CHECK.same("game(" + kettle + ", " + other + ", 0)", choir.game(kettle, other, 0), many);
        CHECK.same("game(" + kettle + ", " + other + ", 1)", choir.game(kettle, other, 1), first);
    }

    private static void game1Or2From() {
        CHECK.says("one gains 6 by keeping, if no other KETTLE SINGS 1 or 2 from it (above or below ..), else loses 4");
        for (int apart = 0; apart <= 5; apart++) {
            boolean near = apart == 1 || apart == 2;
            for (int[] notes : new int[][] {{9, 9 + apart}, {9 + apart, 9}, {0, apart}}) {
                KettleChoir choir = singing(notes);
                rests(choir, 0, 1, near ? 2 : 1, near ? 1 : 11);
                rests(choir, 1, 0, near ? 2 : 1, near ? 1 : 11);
            }
        }
    }

    private static void gameWithAThird() {
        CHECK.says("(10 by the first one's, and the other one's) .. of those that are kept");
        for (int third = 3; third <= 15; third++) {
            int far = Math.abs(third - 9);
            boolean near = far == 1 || far == 2;
            KettleChoir choir = singing(9, 20, third);
            rests(choir, 0, 1, 1, near ? 1 : 11);
            rests(choir, 1, 0, 1, near ? 10 : 11);
        }
        KettleChoir both = singing(9, 12, 10);
        rests(both, 0, 1, 1, 0);
        rests(both, 1, 0, 1, 0);
        // Near each other, and one of them near the third one: that one is lifted off, the other one kept.
        KettleChoir one = singing(9, 10, 7);
        rests(one, 0, 1, 1, 1);
        rests(one, 1, 0, 1, 10);
        // More kettles than stoves: the third one sings on off its stove, at 146 in its sixth minute.
        for (int spout = 1; spout <= 12; spout++) {
            KettleChoir choir = CHECK.choir("tin 9 4 1 0;tin 20 4 1 0;enamel " + spout + " 4 3 0;stove 30;stove 30;");
            choir.put(2, 0);
            choir.minutes(4);
            choir.lift(2);
            choir.put(0, 0);
            choir.put(1, 1);
            choir.minutes(2);
            CHECK.same("who sings", choir.count(4), 7);
            CHECK.same("the note of the third one", choir.kettle(2, 8), spout + 4);
            int far = Math.abs(spout + 4 - 9);
            rests(choir, 0, 1, 1, far == 1 || far == 2 ? 1 : 11);
            rests(choir, 1, 0, 1, far == 1 || far == 2 ? 10 : 11);
        }
        // A third one that doesn't sing is near nobody, not even 0 and 1, as it would be if its NOTE were -1 or 0.
        for (int note = 0; note <= 3; note++) {
            String low = note == 0 ? "copper 1 4 1 0;" : "tin " + note + " 4 1 0;";
            KettleChoir choir = CHECK.choir("tin 9 4 1 9;" + low + "tin 20 4 1 0;tin 9 4 1 9;" + "stove 30;".repeat(4));
            for (int k = 0; k < 4; k++) {
                choir.put(k, k);
            }
            choir.minutes(2);
            CHECK.same("who sings", choir.count(4), 6);
            CHECK.same("the low note", choir.kettle(1, 8), note);
            rests(choir, 1, 2, 1, 11);
            rests(choir, 2, 1, 1, 11);
        }
    }

    private static void gameNone() {
        CHECK.says("none, if one of both doesn't SING");
        rests(CHECK.choir("tin 9 4 1 0;tin 9 4 1 0;"), 0, 1, 0, NONE);
        KettleChoir choir = CHECK.choir("tin 9 4 1 0;tin 9 4 1 9;tin 9 4 1 0;tin 9 4 1 9;stove 30;stove 30;stove 30;stove 30;");
        for (int k = 0; k < 4; k++) {
            choir.put(k, k);
        }
        choir.minutes(2);
        CHECK.same("who sings", choir.count(4), 5);
        rests(choir, 0, 1, 0, NONE);
        rests(choir, 1, 0, 0, NONE);
        rests(choir, 1, 3, 0, NONE);
        rests(choir, 0, 2, 1, 11);
        CHECK.says("(who SINGS, as in the MINUTE ahead)");
        choir.lift(0);
        choir.pour(2, 0);
        rests(choir, 0, 2, 1, 11);
        choir.minutes(1);
        rests(choir, 0, 2, 0, NONE);
    }

    private static void gameRefused() {
        CHECK.says("NoSuchElementException: also another what. IllegalArgumentException (behind that): both are one.");
        BUSY.unchanged("game(0, 0, 0)", choir -> CHECK.illegal("game", () -> choir.game(0, 0, 0)));
        BUSY.unchanged("game(2, 2, 1)", choir -> CHECK.illegal("game", () -> choir.game(2, 2, 1)));
        for (int wrong : new int[] {-1, 2, 3, FAR[0], FAR[1]}) {
            BUSY.unchanged("game(0, 1, " + wrong + ")", choir -> CHECK.missing("game", () -> choir.game(0, 1, wrong)));
            BUSY.unchanged("game(0, 0, " + wrong + ")", choir -> CHECK.missing("game", () -> choir.game(0, 0, wrong)));
        }
        for (int wrong : new int[] {-1, 3, 8, FAR[0], FAR[1]}) {
            BUSY.unchanged("game(" + wrong + ", 1, 0)", choir -> CHECK.missing("game", () -> choir.game(wrong, 1, 0)));
            BUSY.unchanged("game(1, " + wrong + ", 0)", choir -> CHECK.missing("game", () -> choir.game(1, wrong, 0)));
            BUSY.unchanged("game of both " + wrong, choir -> CHECK.missing("game", () -> choir.game(wrong, wrong, 0)));
            BUSY.unchanged("game(" + wrong + ", 1, 9)", choir -> CHECK.missing("game", () -> choir.game(wrong, 1, 9)));
        }
    }

    /** A seed by which the first DRAW of so many is this one, and the DRAW of 4 behind it that one. */
    private static int seed(int kettles, int kettle, int deed, int from) {
        for (long seed = from; seed < from + 100000L; seed++) {
            long one = ((seed & 0xffffffffL) * 1103515245L + 12345L) % 4294967296L;
            long two = (one * 1103515245L + 12345L) % 4294967296L;
            if (one / 65536 % 32768 % kettles == kettle && two / 65536 % 32768 % 4 == deed) {
                return (int) seed;
            }
        }
        throw new IllegalStateException("no such seed");
    }

    private static void evening(KettleChoir choir, int seed, int n, int dishes, int minutes, int note) {
        CHECK.same("dishes of evening(" + seed + ", " + n + ")", choir.evening(seed, n, 0), dishes);
        CHECK.same("minutes of evening(" + seed + ", " + n + ")", choir.evening(seed, n, 1), minutes);
        CHECK.same("the highest note of evening(" + seed + ", " + n + ")", choir.evening(seed, n, 2), note);
    }

    private static void evening0To90() {
        CHECK.says("n MINUTES (0 to 90) from now on");
        evening(singing(9, 12), 5, 0, 0, 0, 0);
        KettleChoir ready = CHECK.choir("tin 9 4 1 0;tin 12 4 1 0;stove 30;stove 30;dish 3;dish 4;");
        ready.put(0, 0);
        ready.put(1, 1);
        ready.minutes(2);
        CHECK.same("who sings", ready.count(4), 3);
        evening(ready, 5, 0, 1, 0, 0);
        // HEAT 150 of enamel, with CHALK 9 until it is scraped: it has all its cups, and sings from the next minute on.
        KettleChoir cooling = CHECK.choir("enamel 9 40 36 9;tin 1 1 1 0;stove 40;");
        cooling.put(0, 0);
        cooling.minutes(30);
        cooling.lift(0);
        cooling.scrape(0);
        CHECK.same("heat", cooling.kettle(0, 5), 150);
        int nothing = seed(2, 0, 2, 0);
        evening(cooling, nothing, 1, 0, 1, 13);
        KettleChoir twin = CHECK.choir("enamel 9 40 36 9;tin 1 1 1 0;stove 40;");
        twin.put(0, 0);
        twin.minutes(30);
        twin.lift(0);
        twin.scrape(0);
        int[] due = byActs(twin, nothing, 90);
        evening(cooling, nothing, 90, 0, due[0], due[1]);
        CHECK.holds("it sounds long enough: " + due[0], due[0] > 50);
    }

    /** What an evening is by acts: in how many MINUTES somebody sings, and the highest NOTE. */
    private static int[] byActs(KettleChoir choir, int seed, int n) {
        long state = seed & 0xffffffffL;
        int[] heard = new int[2];
        for (int m = 0; m < n; m++) {
            state = (state * 1103515245L + 12345L) % 4294967296L;
            int kettle = (int) (state / 65536 % 32768 % choir.count(0));
            state = (state * 1103515245L + 12345L) % 4294967296L;
            int deed = (int) (state / 65536 % 32768 % 4);
            if (deed == 0) {
                choir.lift(kettle);
            } else if (deed == 1 && choir.kettle(kettle, 6) == NONE) {
                choir.put(kettle, 0);
            }
            choir.minutes(1);
            heard[0] += choir.count(4) != 0 ? 1 : 0;
            heard[1] = Math.max(heard[1], Math.max(choir.kettle(0, 8), choir.kettle(1, 8)));
        }
        return heard;
    }

    /** 99 off a stove of POWER 1 comes to 97, on it to 100. */
    private static void eveningLifts() {
        CHECK.says("0 it is lifted off (if it is on one), 1 it comes on the first STOVE .. (if it is on none ..), else nothing");
        KettleChoir on = CHECK.choir("tin 9 6 5 0;stove 1;");
        on.put(0, 0);
        for (int m = 0; m < 99; m++) {
            on.minutes(1);
        }
        KettleChoir off = CHECK.choir("tin 9 6 5 0;stove 1;");
        off.put(0, 0);
        for (int m = 0; m < 99; m++) {
            off.minutes(1);
        }
        off.lift(0);
        for (int from : new int[] {0, -1000000, 1234567890, Integer.MIN_VALUE}) {
            for (int deed = 0; deed < 4; deed++) {
                int seed = seed(1, 0, deed, from);
                evening(on, seed, 1, 0, deed == 0 ? 0 : 1, deed == 0 ? 0 : 9);
                evening(off, seed, 1, 0, deed == 1 ? 1 : 0, deed == 1 ? 9 : 0);
            }
        }
    }

    /** POWER 1, 11, 21 and 31 bring 99 to 100, 110, 120 and 130: the NOTE tells the stove. */
    private static void eveningOnTheFirstFreeStove() {
        CHECK.says("1 it comes on the first STOVE on which there is none (if it is on none, and there is one)");
        int kettles = 5;
        for (int taken = 0; taken < 16; taken++) {
            KettleChoir choir = CHECK.choir("tin 9 6 5 0;" + "tin 9 6 5 9;".repeat(4) + "stove 1;stove 11;stove 21;stove 31;");
            choir.put(0, 0);
            for (int m = 0; m < 99; m++) {
                choir.minutes(1);
            }
            choir.lift(0);
            int first = NONE;
            for (int s = 3; s >= 0; s--) {
                if ((taken >> s & 1) == 1) {
                    choir.put(1 + s, s);
                } else {
                    first = s;
                }
            }
            boolean sings = first != NONE;
            evening(choir, seed(kettles, 0, 1, 77), 1, 0, sings ? 1 : 0, sings ? 9 + first : 0);
            evening(choir, seed(kettles, 0, 3, 77), 1, 0, 0, 0);
            CHECK.same("it is still off", choir.kettle(0, 6), NONE);
        }
        KettleChoir bare = CHECK.choir("tin 9 6 5 0;dish 3;");
        evening(bare, seed(1, 0, 1, 0), 90, 0, 0, 0);
    }

    private static void eveningOfNobody() {
        CHECK.says("(Without KETTLES nothing is drawn.)");
        for (int n : new int[] {0, 1, 90}) {
            evening(new KettleChoir(), 5, n, 0, 0, 0);
            evening(CHECK.choir("stove 40;dish 3;lifts 1;"), -5, n, 0, 0, 0);
        }
    }

    private static void eveningRefused() {
        CHECK.says("NoSuchElementException: another what. IllegalArgumentException (behind that): n.");
        for (int wrong : new int[] {-1, -2, 91, 92, FAR[0], FAR[1]}) {
            BUSY.unchanged("evening(5, " + wrong + ", 0)", choir -> CHECK.illegal("evening", () -> choir.evening(5, wrong, 0)));
            KettleChoir choir = Twins.busy();
            for (int what : new int[] {-1, 3, FAR[0], FAR[1]}) {
                CHECK.missing("evening(5, " + wrong + ", " + what + ")", () -> choir.evening(5, wrong, what));
            }
            KettleChoir nobody = new KettleChoir();
            CHECK.illegal("evening(5, " + wrong + ", 0) of nobody", () -> nobody.evening(5, wrong, 0));
        }
        for (int wrong : new int[] {-1, 3, 4, FAR[0], FAR[1]}) {
            BUSY.unchanged("evening(5, 5, " + wrong + ")", choir -> CHECK.missing("evening", () -> choir.evening(5, 5, wrong)));
        }
    }

    private static void statusOfEach() {
        CHECK.says("STATUS: how many calls were refused: 0 TEXTS with a FAULT, 1 ACTS, 2 what is HEARD.");
        KettleChoir choir = CHECK.choir("tin 9 6 5 0;stove 1;");
        for (int i = 1; i <= 5; i++) {
            Check.read(choir, "x");
            choir.scrape(0);
            choir.lift(0);
            choir.hear(0, 0);
            choir.hear(1, 61);
            choir.hear(1, -2);
            CHECK.same("texts", choir.count(12), i);
            CHECK.same("acts", choir.count(13), 2 * i);
            CHECK.same("heard", choir.count(14), 3 * i);
        }
        CHECK.missing("what throws", () -> choir.lift(1));
        CHECK.illegal("what throws", () -> choir.kitchen(1));
        choir.undo();
        choir.restore();
        CHECK.same("is not counted", choir.count(12) + choir.count(13) + choir.count(14), 30);
    }

    private static void imageInPlace() {
        CHECK.says("AN IMAGE is kept, in place of another one.");
        KettleChoir choir = CHECK.choir("tin 9 6 5 0;stove 1;");
        choir.image();
        choir.minutes(3);
        choir.image();
        choir.minutes(4);
        CHECK.same("restore()", choir.restore(), true);
        CHECK.same("the latest", choir.count(3), 3);
        CHECK.same("undone", choir.undo(), 0);
        CHECK.same("restore() again", choir.restore(), true);
        CHECK.same("the latest again", choir.count(3), 3);
    }

    private static Twins kept() {
        return new Twins(CHECK, () -> {
            KettleChoir choir = Twins.busy();
            choir.image();
            return choir;
        });
    }

    private static void restoreAgain() {
        CHECK.says("AN IMAGE keeps the MINUTE, where KETTLES are, HEAT, FILL, CHALK, what was sung, DISHES that are READY, ACTS "
                + "that are kept, what is HEARD, STATUS. .. It is as the IMAGE again: true.");
        Twins.Deed[] deeds = {choir -> choir.minutes(30), choir -> choir.put(2, 2), choir -> choir.lift(0), choir -> choir.pour(1, 20),
            choir -> choir.undo(), choir -> choir.forget(), choir -> choir.hear(1, 1), choir -> choir.minutes(0),
            choir -> choir.hear(0, 0), choir -> choir.scrape(0)};
        for (int i = 0; i < deeds.length; i++) {
            Twins.Deed deed = deeds[i];
            kept().unchanged("deed " + i + ", and restored", choir -> {
                deed.doTo(choir);
                CHECK.same("restore()", choir.restore(), true);
            });
        }
        kept().unchanged("all deeds, and restored twice", choir -> {
            for (int times = 0; times < 2; times++) {
                for (Twins.Deed deed : deeds) {
                    deed.doTo(choir);
                }
                choir.undo();
                CHECK.same("restore()", choir.restore(), true);
            }
        });
        kept().unchanged("restored at once", choir -> choir.restore());
    }

    private static void restoreOf40Acts() {
        CHECK.says("ACTS that are kept");
        for (int acts : new int[] {39, 40, 41, 60}) {
            KettleChoir choir = CHECK.choir("tin 5 40 0 0;");
            for (int i = 1; i <= acts; i++) {
                choir.pour(0, i % 41);
            }
            choir.image();
            for (int i = 0; i < 7; i++) {
                choir.undo();
            }
            for (int i = 0; i < 11; i++) {
                choir.minutes(1);
            }
            CHECK.same("restore()", choir.restore(), true);
            int kept = Math.min(acts, 40);
            CHECK.same("acts of " + acts, choir.count(9), kept);
            for (int i = 1; i <= kept; i++) {
                CHECK.same("undo " + i + " of " + acts, choir.undo(), kept - i);
                CHECK.same("the fill then", choir.kettle(0, 3), (acts - i) % 41);
            }
            CHECK.same("no more", choir.undo(), NONE);
        }
    }

    private static void restoreOf8Heard() {
        CHECK.says("AN IMAGE keeps .. what is HEARD");
        for (int heard = 0; heard <= 8; heard++) {
            KettleChoir choir = CHECK.choir("tin 9 4 1 3;stove 30;");
            choir.put(0, 0);
            for (int i = 0; i < heard; i++) {
                choir.hear(2, i < 7 ? 8 : 7);
            }
            choir.image();
            choir.forget();
            choir.hear(1, 60);
            CHECK.same("restore()", choir.restore(), true);
            CHECK.same("heard", choir.count(10), heard);
            CHECK.same("how many chalks", choir.chalk(0), heard == 0 ? 9 : heard == 8 ? 0 : 2);
            CHECK.same("whether without", choir.chalk(2), heard == 8 ? 0 : 1);
            CHECK.same("one more", choir.hear(2, 8), heard == 8 ? NONE : heard + 1);
        }
    }

    private static void restoreStatus() {
        CHECK.says("AN IMAGE keeps .. STATUS");
        KettleChoir choir = CHECK.choir("tin 9 6 5 0;stove 1;");
        Check.read(choir, "x");
        choir.lift(0);
        choir.lift(0);
        choir.hear(0, 0);
        choir.hear(0, 0);
        choir.hear(0, 0);
        choir.image();
        for (int i = 0; i < 3; i++) {
            Check.read(choir, "x");
            choir.lift(0);
            choir.hear(0, 0);
        }
        CHECK.same("restore()", choir.restore(), true);
        for (int i = 0; i < 3; i++) {
            CHECK.same("status " + i, choir.count(12 + i), i + 1);
        }
    }

    private static void restoreNone() {
        CHECK.says("False: there is none.");
        Twins none = new Twins(CHECK, () -> {
            KettleChoir choir = CHECK.choir("tin 9 4 1 3;tin 12 4 1 0;stove 30;stove 30;dish 3;");
            choir.put(0, 0);
            choir.put(1, 1);
            choir.minutes(2);
            choir.hear(1, 5);
            return choir;
        });
        none.unchanged("restore()", choir -> CHECK.same("restore()", choir.restore(), false));
        KettleChoir choir = new KettleChoir();
        CHECK.same("of a new one", choir.restore(), false);
        choir.image();
        CHECK.same("of an image", choir.restore(), true);
        CHECK.same("of a kitchen", choir.kitchen(0), 0);
        CHECK.same("gone", choir.restore(), false);
        choir.image();
        Check.read(choir, "x");
        CHECK.same("not by a fault", choir.restore(), true);
    }

    private static void asksChangeNothing() {
        CHECK.says("THE CHALK .. LISTEN .. A GAME .. EVENINGS");
        BUSY.unchanged("asks", choir -> {
            choir.chalk(0);
            choir.chalk(1);
            choir.chalk(2);
            choir.listen(0);
            choir.listen(1);
            choir.game(0, 1, 0);
            choir.game(0, 1, 1);
            choir.evening(5, 90, 0);
            choir.evening(6, 90, 1);
            choir.evening(7, 90, 2);
        });
    }
}
