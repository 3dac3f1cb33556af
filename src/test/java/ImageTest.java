/** Promises 33 and 34: image, restore. */
public final class ImageTest {
    private static final Check CHECK = new Check("ImageTest");
    private static final int NONE = Check.NONE;

    public static void main(String[] args) {
        none();
        keepsAll();
        keepsActs();
        inPlaceOfAnother();
        whatItDoesNotKeep();
        goneWithTheKitchen();
        CHECK.end();
    }

    private static void none() {
        KettleChoir choir = CHECK.choir("tin 5 20 5 0;stove 10;");
        choir.put(0, 0);
        CHECK.same("restore() without an image", choir.restore(), false);
        CHECK.same("nothing changes", choir.kettle(0, 6), 0);
        CHECK.same("no status", choir.count(12) + choir.count(13) + choir.count(14), 0);
        KettleChoir empty = new KettleChoir();
        empty.image();
        empty.minutes(5);
        CHECK.same("restore() without kettles", empty.restore(), true);
        CHECK.same("the minute", empty.count(3), 0);
    }

    private static KettleChoir concert() {
        KettleChoir choir = CHECK.choir("tin 5 20 5 3;tin 8 20 5 0;tin 7 30 20 5;stove 10;stove 10;stove 20;dish 4;dish 9;");
        choir.put(0, 0);
        choir.put(1, 1);
        choir.minutes(12);
        choir.hear(4, 12);
        choir.hear(5, 61);
        choir.lift(2);
        choir.pour(2, 31);
        Check.read(choir, "x");
        return choir;
    }

    private static int[] all(KettleChoir choir) {
        int[] all = new int[15 + 27 + 3 + 2 + 2];
        for (int what = 0; what < 15; what++) {
            all[what] = choir.count(what);
        }
        for (int i = 0; i < 27; i++) {
            all[15 + i] = choir.kettle(i / 9, i % 9);
        }
        for (int s = 0; s < 3; s++) {
            all[42 + s] = choir.stove(s, 1);
        }
        for (int d = 0; d < 2; d++) {
            all[45 + d] = choir.dish(d, -2);
        }
        all[47] = choir.chalk(0);
        all[48] = choir.soonest(1, NONE);
        return all;
    }

    private static void keepsAll() {
        KettleChoir choir = concert();
        int[] was = all(choir);
        CHECK.same("the dish is ready", choir.dish(0, -2), 9);
        choir.image();
        for (int times = 0; times < 2; times++) {
            choir.put(2, 2);
            choir.minutes(30);
            choir.lift(0);
            choir.scrape(0);
            choir.pour(1, 9);
            choir.hear(3, 3);
            choir.hear(99, 3);
            choir.minutes(0);
            Check.read(choir, "y");
            CHECK.holds("it is otherwise", choir.count(3) != was[3] && choir.kettle(0, 3) != was[15 + 3]);
            CHECK.same("restore()", choir.restore(), true);
            int[] is = all(choir);
            for (int i = 0; i < was.length; i++) {
                CHECK.same("answer " + i, is[i], was[i]);
            }
        }
        choir.forget();
        choir.restore();
        CHECK.same("what is heard is back", choir.count(10), 1);
        CHECK.same("as it was heard", choir.hear(7, 7), 2);
    }

    private static void keepsActs() {
        KettleChoir choir = CHECK.choir("tin 5 40 1 0;stove 10;");
        for (int i = 2; i <= 40; i++) {
            choir.pour(0, i);
        }
        choir.pour(0, 1);
        choir.pour(0, 2);
        choir.pour(0, 3);
        choir.image();
        for (int i = 0; i < 10; i++) {
            choir.undo();
        }
        for (int i = 10; i < 25; i++) {
            choir.pour(0, i);
        }
        choir.restore();
        CHECK.same("40 acts", choir.count(9), 40);
        int[] due = {2, 1, 40, 39};
        for (int i = 0; i < due.length; i++) {
            CHECK.same("undo", choir.undo(), 39 - i);
            CHECK.same("the fill", choir.kettle(0, 3), due[i]);
        }
        choir.restore();
        for (int i = 0; i < 40; i++) {
            choir.undo();
        }
        CHECK.same("the first acts were not kept", choir.kettle(0, 3), 3);
        CHECK.same("none is left", choir.undo(), NONE);
    }

    private static void inPlaceOfAnother() {
        KettleChoir choir = CHECK.choir("tin 5 20 5 0;stove 10;");
        choir.image();
        choir.put(0, 0);
        choir.minutes(3);
        choir.image();
        choir.minutes(3);
        choir.restore();
        CHECK.same("the later image", choir.count(3), 3);
        choir.undo();
        choir.undo();
        choir.restore();
        CHECK.same("again", choir.kettle(0, 5), 30);
    }

    private static void whatItDoesNotKeep() {
        KettleChoir choir = CHECK.choir("tin 5 20 5 0;stove 10;");
        Check.tape(choir, "stove 1;");
        choir.image();
        choir.feed(1, 2, 3, 4, 5);
        choir.restore();
        CHECK.same("the tape stays as it is", choir.count(11), 40);
        CHECK.same("a fault", choir.kitchen(40), 1);
        CHECK.same("its place", choir.fault(), 20);
        CHECK.same("status", choir.count(12), 1);
        choir.restore();
        CHECK.same("status as it was", choir.count(12), 0);
        CHECK.same("fault() is the latest kitchen()'s", choir.fault(), 20);
        CHECK.same("the tape is empty", choir.count(11), 0);
    }

    private static void goneWithTheKitchen() {
        KettleChoir choir = CHECK.choir("tin 5 20 5 0;stove 10;");
        choir.image();
        Check.read(choir, "tin;");
        CHECK.same("it stays behind a fault", choir.restore(), true);
        Check.read(choir, "tin 5 20 5 0;");
        CHECK.same("it is gone with a kitchen", choir.restore(), false);
        choir.image();
        CHECK.same("a new one", choir.restore(), true);
    }
}
