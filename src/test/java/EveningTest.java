/** Promises 31 and 32: game, evening. */
public final class EveningTest {
    private static final Check CHECK = new Check("EveningTest");
    private static final int NONE = Check.NONE;

    public static void main(String[] args) {
        gameAskedWrongly();
        game();
        gameWithOthers();
        gameOfTheMinuteAhead();
        eveningAskedWrongly();
        eveningOfNothing();
        evenings();
        CHECK.end();
    }

    /** All of these kettles sing in the second minute, by their spouts alone. */
    private static KettleChoir singing(int... spouts) {
        StringBuilder text = new StringBuilder();
        for (int spout : spouts) {
            text.append("tin ").append(spout).append(" 4 1 0;stove 30;");
        }
        KettleChoir choir = CHECK.choir(text.toString());
        for (int k = 0; k < spouts.length; k++) {
            choir.put(k, k);
        }
        choir.minutes(2);
        CHECK.same("all sing", choir.count(4), (1 << spouts.length) - 1);
        return choir;
    }

    private static void gameAskedWrongly() {
        KettleChoir choir = singing(5, 9);
        for (int wrong : new int[] {-1, 2, Integer.MAX_VALUE, Integer.MIN_VALUE}) {
            CHECK.missing("game of kettle " + wrong, () -> choir.game(wrong, 0, 0));
            CHECK.missing("game with kettle " + wrong, () -> choir.game(0, wrong, 0));
            CHECK.missing("game(0, 1, " + wrong + ")", () -> choir.game(0, 1, wrong));
            CHECK.missing("game(0, 0, " + wrong + ")", () -> choir.game(0, 0, wrong));
            CHECK.missing("game of " + wrong + " with itself", () -> choir.game(wrong, wrong, 0));
        }
        CHECK.illegal("game(0, 0, 0)", () -> choir.game(0, 0, 0));
        CHECK.illegal("game(1, 1, 1)", () -> choir.game(1, 1, 1));
    }

    private static void rests(KettleChoir choir, int kettle, int other, int many, int first) {
        String game = "game(" + kettle + ", " + other + ", ";
        CHECK.same(game + "0)", choir.game(kettle, other, 0), many);
        CHECK.same(game + "1)", choir.game(kettle, other, 1), first);
    }

    private static void game() {
        rests(singing(5, 5), 0, 1, 1, 11);
        rests(singing(5, 6), 0, 1, 2, 1);
        rests(singing(6, 5), 0, 1, 2, 1);
        rests(singing(5, 7), 0, 1, 2, 1);
        rests(singing(7, 5), 1, 0, 2, 1);
        rests(singing(5, 8), 0, 1, 1, 11);
        rests(singing(8, 5), 0, 1, 1, 11);
        KettleChoir cold = CHECK.choir("tin 5 20 5 0;tin 5 20 5 0;");
        rests(cold, 0, 1, 0, NONE);
    }

    /** A third one that sings is kept, and near it nobody gains. */
    private static void gameWithOthers() {
        KettleChoir choir = singing(5, 9, 10);
        rests(choir, 0, 1, 1, 10);
        rests(choir, 1, 0, 1, 1);
        rests(choir, 0, 2, 1, 10);
        rests(choir, 1, 2, 2, 1);
        KettleChoir between = singing(5, 9, 7);
        rests(between, 0, 1, 1, 0);
        rests(between, 0, 2, 1, 10);
        rests(between, 2, 0, 1, 1);
        KettleChoir near = singing(5, 6, 7);
        rests(near, 0, 1, 1, 0);
        KettleChoir far = singing(5, 9, 13);
        rests(far, 0, 1, 1, 11);
    }

    private static void gameOfTheMinuteAhead() {
        KettleChoir choir = singing(5, 6);
        choir.lift(0);
        rests(choir, 0, 1, 2, 1);
        choir.minutes(1);
        rests(choir, 0, 1, 0, NONE);
        rests(choir, 1, 0, 0, NONE);
        choir.undo();
        rests(choir, 0, 1, 2, 1);
        CHECK.same("nobody was lifted off by a game", choir.kettle(1, 6), 1);
        KettleChoir others = singing(5, 9, 13);
        others.lift(1);
        others.minutes(1);
        CHECK.same("one doesn't sing", others.count(4), 5);
        rests(others, 0, 1, 0, NONE);
        rests(others, 1, 2, 0, NONE);
        rests(others, 2, 1, 0, NONE);
        rests(others, 0, 2, 1, 11);
    }

    private static void eveningAskedWrongly() {
        KettleChoir choir = CHECK.choir("tin 5 20 5 0;stove 10;");
        for (int wrong : new int[] {-1, 3, Integer.MAX_VALUE, Integer.MIN_VALUE}) {
            CHECK.missing("evening(5, 5, " + wrong + ")", () -> choir.evening(5, 5, wrong));
            CHECK.missing("evening(5, -1, " + wrong + ")", () -> choir.evening(5, -1, wrong));
        }
        for (int wrong : new int[] {-1, 91, Integer.MAX_VALUE, Integer.MIN_VALUE}) {
            CHECK.illegal("evening(5, " + wrong + ", 0)", () -> choir.evening(5, wrong, 0));
        }
    }

    private static void eveningOfNothing() {
        KettleChoir nobody = CHECK.choir("stove 10;dish 3;");
        for (int what = 0; what <= 2; what++) {
            CHECK.same("an evening without kettles", nobody.evening(5, 90, what), 0);
        }
        KettleChoir choir = CHECK.choir("tin 5 20 5 0;tin 8 20 5 0;stove 10;stove 10;dish 3;");
        choir.put(0, 0);
        choir.put(1, 1);
        choir.minutes(10);
        CHECK.same("no minutes: dishes", choir.evening(7, 0, 0), 1);
        CHECK.same("no minutes: minutes", choir.evening(7, 0, 1), 0);
        CHECK.same("no minutes: the highest note", choir.evening(7, 0, 2), 0);
    }

    /** Evenings once more by the acts of another object, and seeds that are reckoned apart. */
    private static void evenings() {
        String[] texts = {
            "tin 5 20 5 0;stove 40;",
            "tin 5 20 5 0;copper 9 20 3 0;stove 40;stove 30;dish 3;dish 4;dish 1;",
            "tin 5 20 5 0;copper 9 20 3 0;iron 7 30 4 2;enamel 6 9 3 1;stove 40;stove 30;dish 3;dish 4;dish 1 2;lifts 4<sung;",
            "tin 5 20 5 0;tin 5 20 5 0;tin 5 20 5 0;tin 8 9 2 0;tin 3 3 1 0;",
        };
        int[] seeds = {0, 1, -1, 5, 99, 123456789, Integer.MAX_VALUE, Integer.MIN_VALUE, 42, 7, 8};
        int heard = 0;
        for (String text : texts) {
            for (int seed : seeds) {
                for (int n : new int[] {1, 2, 17, 90}) {
                    heard += evening(text, seed, n);
                }
            }
        }
        CHECK.holds("many evenings sound", heard > 500);
    }

    private static int evening(String text, int seed, int n) {
        KettleChoir choir = CHECK.choir(text);
        for (int what = 0; what <= 2; what++) {
            choir.evening(seed, n, what);
        }
        KettleChoir twin = CHECK.choir(text);
        long state = seed & 0xffffffffL;
        int loud = 0;
        int highest = 0;
        for (int m = 0; m < n; m++) {
            state = (state * 1103515245L + 12345L) % 4294967296L;
            int kettle = (int) (state / 65536 % 32768 % twin.count(0));
            state = (state * 1103515245L + 12345L) % 4294967296L;
            int deed = (int) (state / 65536 % 32768 % 4);
            if (deed == 0) {
                twin.lift(kettle);
            }
            for (int s = 0; s < twin.count(1) && deed == 1 && twin.kettle(kettle, 6) == NONE; s++) {
                twin.put(kettle, s);
            }
            twin.minutes(1);
            loud += twin.count(4) != 0 ? 1 : 0;
            for (int k = 0; k < twin.count(0); k++) {
                highest = Math.max(highest, twin.kettle(k, 8));
            }
        }
        String evening = "evening(" + seed + ", " + n + ", ";
        CHECK.same(evening + "0)", choir.evening(seed, n, 0), Integer.bitCount(twin.count(5)));
        CHECK.same(evening + "1)", choir.evening(seed, n, 1), loud);
        CHECK.same(evening + "2)", choir.evening(seed, n, 2), highest);
        CHECK.same("the minute stays", choir.count(3), 0);
        CHECK.same("no acts", choir.count(9), 0);
        return loud;
    }
}
