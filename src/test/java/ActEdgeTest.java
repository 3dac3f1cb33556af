import java.util.ArrayList;
import java.util.List;

/** The document's bounds of ACTS (==== 2, promises 9 to 14): what is refused, what that changes, what is kept, undone. */
public final class ActEdgeTest {
    private static final Check CHECK = new Check("ActEdgeTest");
    private static final int NONE = Check.NONE;
    private static final int ACT = 1;
    private static final int[] FAR = {Integer.MIN_VALUE, Integer.MAX_VALUE};
    private static final Twins BUSY = new Twins(CHECK, Twins::busy);

    public static void main(String[] args) {
        minutes1To30();
        minutesRefused();
        notAbove9999();
        refusedAt9999();
        putOnAFreeOne();
        putFromAnother();
        putRefused();
        putMissing();
        lift();
        liftRefused();
        pour0ToSize();
        pourHeat();
        pourRefused();
        scrape();
        scrapeRefused();
        missingKettles();
        fortyActs();
        lastOneFirst();
        undoNothing();
        eachActAlone();
        CHECK.end();
    }

    private static void minutes1To30() {
        CHECK.says("MINUTES go by (1 to 30)");
        for (int many = 1; many <= 30; many++) {
            KettleChoir choir = CHECK.choir("tin 5 5 5 0;stove 1;");
            choir.put(0, 0);
            CHECK.same("minutes(" + many + ")", choir.minutes(many), many);
            CHECK.same("the minute", choir.count(3), many);
            CHECK.same("the heat by so many", choir.kettle(0, 5), many);
            CHECK.same("one act", choir.count(9), 2);
            CHECK.same("nothing refused", choir.count(13), 0);
            CHECK.same("undone at once", choir.undo(), 1);
            CHECK.same("the heat then", choir.kettle(0, 5), 0);
        }
    }

    private static void minutesRefused() {
        CHECK.says("NONE (STATUS 1): not 1 to 30");
        for (int many : new int[] {-1, 0, 31, 32, FAR[0], FAR[1]}) {
            BUSY.refused("minutes(" + many + ")", ACT,
                    choir -> CHECK.same("minutes(" + many + ")", choir.minutes(many), NONE));
        }
    }

    /** In so many MINUTES from the first one on. */
    private static KettleChoir late(int minute) {
        KettleChoir choir = CHECK.choir("tin 5 20 5 0;stove 10;");
        for (int m = 0; m + 30 <= minute; m += 30) {
            choir.minutes(30);
        }
        if (minute % 30 != 0) {
            choir.minutes(minute % 30);
        }
        CHECK.same("the minute", choir.count(3), minute);
        return choir;
    }

    private static void notAbove9999() {
        CHECK.says("NONE (STATUS 1): .. it would be above 9999");
        int[][] due = {{9969, 30, 9999}, {9970, 29, 9999}, {9970, 30, NONE}, {9998, 1, 9999}, {9998, 2, NONE}, {9999, 1, NONE},
            {9999, 30, NONE}};
        for (int[] each : due) {
            KettleChoir choir = late(each[0]);
            CHECK.same("minutes(" + each[1] + ") from " + each[0], choir.minutes(each[1]), each[2]);
            CHECK.same("the minute then", choir.count(3), each[2] == NONE ? each[0] : each[2]);
            CHECK.same("refused acts", choir.count(13), each[2] == NONE ? 1 : 0);
        }
        KettleChoir last = late(9999);
        CHECK.same("an act that is no minute", last.put(0, 0), true);
        CHECK.same("undone", last.undo(), 39);
        CHECK.same("a minute undone", last.undo(), 38);
        CHECK.same("the minute then", last.count(3), 9990);
        CHECK.same("and gone by again", last.minutes(9), 9999);
    }

    private static void refusedAt9999() {
        CHECK.says("NONE (STATUS 1): .. it would be above 9999");
        KettleChoir choir = late(9999);
        KettleChoir twin = late(9999);
        choir.minutes(1);
        for (int undos = 0; undos < 40; undos++) {
            CHECK.same("undo", choir.undo(), twin.undo());
            CHECK.same("the minute", choir.count(3), twin.count(3));
        }
        CHECK.same("no more", choir.undo(), NONE);
        CHECK.same("no more of the other one's", twin.undo(), NONE);
    }

    private static void putOnAFreeOne() {
        CHECK.says("a KETTLE is PUT on a STOVE (on which there is none ..)");
        KettleChoir choir = CHECK.choir("tin 5 20 5 0;tin 5 20 5 0;stove 10;stove 10;");
        CHECK.same("on a free one", choir.put(0, 0), true);
        CHECK.same("the other one's there", choir.put(1, 0), false);
        CHECK.same("its own", choir.put(0, 0), false);
        CHECK.same("refused", choir.count(13), 2);
        choir.lift(0);
        CHECK.same("free again", choir.put(1, 0), true);
        CHECK.same("the stove of 1", choir.kettle(1, 6), 0);
        CHECK.same("the stove of 0", choir.kettle(0, 6), NONE);
        KettleChoir lifted = CHECK.choir("tin 5 20 5 0;tin 5 20 5 0;stove 10;lifts 1;");
        lifted.put(0, 0);
        lifted.minutes(1);
        CHECK.same("free by the cook", lifted.put(1, 0), true);
    }

    private static void putFromAnother() {
        CHECK.says("from another one, too");
        KettleChoir choir = CHECK.choir("tin 5 20 5 0;tin 5 20 5 0;stove 10;stove 40;stove 3;stove 4;");
        choir.put(0, 0);
        for (int s = 1; s < 4; s++) {
            CHECK.same("to stove " + s, choir.put(0, s), true);
            CHECK.same("its stove", choir.kettle(0, 6), s);
            CHECK.same("the one ahead is free", choir.stove(s - 1, 1), NONE);
        }
        CHECK.same("acts", choir.count(9), 4);
        CHECK.same("undone", choir.undo(), 3);
        CHECK.same("on the one ahead again", choir.kettle(0, 6), 2);
    }

    private static void putRefused() {
        CHECK.says("False (STATUS 1): there is one on it.");
        BUSY.refused("put(2, 1)", ACT, choir -> CHECK.same("put(2, 1)", choir.put(2, 1), false));
        BUSY.refused("put(0, 0)", ACT, choir -> CHECK.same("put(0, 0)", choir.put(0, 0), false));
        BUSY.refused("put(0, 1)", ACT, choir -> CHECK.same("put(0, 1)", choir.put(0, 1), false));
    }

    private static void putMissing() {
        CHECK.says("NoSuchElementException (ahead): no such KETTLE, STOVE.");
        int[][] wrong = {{-1, 2}, {3, 2}, {8, 2}, {2, -1}, {2, 3}, {2, 4}, {-1, -1}, {3, 3}, {-1, 0}, {3, 1}, {0, -1}, {0, 3},
            {FAR[0], 0}, {FAR[1], 0}, {0, FAR[0]}, {0, FAR[1]}};
        for (int[] each : wrong) {
            String call = "put(" + each[0] + ", " + each[1] + ")";
            BUSY.unchanged(call, choir -> CHECK.missing(call, () -> choir.put(each[0], each[1])));
        }
    }

    private static void lift() {
        CHECK.says("LIFTED: its STOVE.");
        KettleChoir choir = CHECK.choir("tin 5 20 5 0;stove 10;stove 40;stove 3;stove 4;");
        for (int s = 0; s < 4; s++) {
            choir.put(0, s);
            CHECK.same("lift(0) off " + s, choir.lift(0), s);
            CHECK.same("its stove then", choir.kettle(0, 6), NONE);
            CHECK.same("the stove's kettle then", choir.stove(s, 1), NONE);
        }
        CHECK.same("acts", choir.count(9), 8);
        CHECK.same("refused", choir.count(13), 0);
    }

    private static void liftRefused() {
        CHECK.says("NONE (STATUS 1): it is on none.");
        BUSY.refused("lift(2)", ACT, choir -> CHECK.same("lift(2)", choir.lift(2), NONE));
        KettleChoir choir = CHECK.choir("tin 5 20 5 0;stove 10;lifts 1;");
        choir.put(0, 0);
        choir.minutes(1);
        CHECK.same("behind the cook", choir.lift(0), NONE);
        CHECK.same("refused", choir.count(13), 1);
    }

    private static void pour0ToSize() {
        CHECK.says("one is POURED to another FILL (0 to SIZE ..)");
        for (int size : new int[] {1, 2, 20, 40}) {
            for (int old = 0; old <= size; old += size == 40 ? 40 : 1) {
                for (int fill : new int[] {-1, 0, 1, size - 1, size, size + 1, old}) {
                    KettleChoir choir = CHECK.choir("tin 5 " + size + " " + old + " 0;");
                    boolean pours = fill >= 0 && fill <= size && fill != old;
                    String call = "pour(0, " + fill + ") from " + old + " of " + size;
                    CHECK.same(call, choir.pour(0, fill), pours ? 0 : NONE);
                    CHECK.same("the fill behind " + call, choir.kettle(0, 3), pours ? fill : old);
                    CHECK.same("refused behind " + call, choir.count(13), pours ? 0 : 1);
                    CHECK.same("acts behind " + call, choir.count(9), pours ? 1 : 0);
                }
            }
        }
    }

    /** FILL 10 by POWER 30: HEAT 20 each minute. */
    private static void pourHeat() {
        CHECK.says("if that is more, HEAT becomes HEAT by the old FILL by the new one, cut down");
        int[][] due = {{9, 60}, {1, 60}, {0, 60}, {11, 54}, {12, 50}, {13, 46}, {20, 30}, {39, 15}, {40, 15}};
        for (int[] each : due) {
            KettleChoir choir = CHECK.choir("tin 5 40 10 0;stove 30;");
            choir.put(0, 0);
            choir.minutes(3);
            CHECK.same("pour(0, " + each[0] + ")", choir.pour(0, each[0]), each[1]);
            CHECK.same("its heat", choir.kettle(0, 5), each[1]);
            CHECK.same("its chalk", choir.kettle(0, 4), 0);
            CHECK.same("its stove", choir.kettle(0, 6), 0);
        }
        KettleChoir empty = CHECK.choir("tin 5 40 0 0;stove 40;");
        empty.put(0, 0);
        empty.minutes(2);
        CHECK.same("the heat of an empty one", empty.kettle(0, 5), 150);
        CHECK.same("a cup into it", empty.pour(0, 1), 0);
        CHECK.same("undone", empty.undo(), 2);
        CHECK.same("its heat", empty.kettle(0, 5), 150);
        CHECK.same("40 cups into it", empty.pour(0, 40), 0);
    }

    private static void pourRefused() {
        CHECK.says("NONE (STATUS 1): not 0 to SIZE, FILL is so.");
        int[][] wrong = {{0, -1}, {0, 21}, {0, 4}, {1, 2}, {2, 9}, {2, 31}, {0, FAR[0]}, {0, FAR[1]}};
        for (int[] each : wrong) {
            String call = "pour(" + each[0] + ", " + each[1] + ")";
            BUSY.refused(call, ACT, choir -> CHECK.same(call, choir.pour(each[0], each[1]), NONE));
        }
    }

    private static void scrape() {
        CHECK.says("one is SCRAPED, that is on no STOVE: CHALK is 0");
        for (int chalk = 0; chalk <= 9; chalk++) {
            KettleChoir choir = CHECK.choir("tin 5 20 5 " + chalk + ";stove 10;");
            choir.put(0, 0);
            CHECK.same("on a stove", choir.scrape(0), NONE);
            choir.lift(0);
            CHECK.same("off it", choir.scrape(0), chalk == 0 ? NONE : chalk);
            CHECK.same("its chalk then", choir.kettle(0, 4), 0);
            CHECK.same("again", choir.scrape(0), NONE);
            CHECK.same("refused", choir.count(13), chalk == 0 ? 3 : 2);
            CHECK.same("acts", choir.count(9), chalk == 0 ? 2 : 3);
            CHECK.same("undone", choir.undo(), chalk == 0 ? 1 : 2);
            CHECK.same("its chalk again", choir.kettle(0, 4), chalk);
        }
    }

    private static void scrapeRefused() {
        CHECK.says("NONE (STATUS 1): it is on a STOVE, has none.");
        BUSY.refused("scrape(0), on a stove", ACT, choir -> CHECK.same("scrape(0)", choir.scrape(0), NONE));
        BUSY.refused("scrape(1), on a stove, without chalk", ACT, choir -> CHECK.same("scrape(1)", choir.scrape(1), NONE));
        BUSY.refused("scrape(2), without chalk", ACT, choir -> CHECK.same("scrape(2)", choir.scrape(2), NONE));
    }

    private static void missingKettles() {
        CHECK.says("NoSuchElementException: no such KETTLE (as everywhere)");
        for (int wrong : new int[] {-1, 3, 8, FAR[0], FAR[1]}) {
            BUSY.unchanged("lift(" + wrong + ")", choir -> CHECK.missing("lift", () -> choir.lift(wrong)));
            BUSY.unchanged("pour(" + wrong + ", 1)", choir -> CHECK.missing("pour", () -> choir.pour(wrong, 1)));
            BUSY.unchanged("pour(" + wrong + ", 99)", choir -> CHECK.missing("pour", () -> choir.pour(wrong, 99)));
            BUSY.unchanged("scrape(" + wrong + ")", choir -> CHECK.missing("scrape", () -> choir.scrape(wrong)));
        }
    }

    private static void fortyActs() {
        CHECK.says("ACTS (at most 40 are kept, the latest ones)");
        for (int acts : new int[] {0, 1, 39, 40, 41, 42, 79, 80, 81, 120}) {
            KettleChoir choir = CHECK.choir("tin 5 40 0 0;");
            for (int i = 1; i <= acts; i++) {
                // 1, 2 .. 40, 0, 1 ..: each is another FILL than the one ahead.
                choir.pour(0, i % 41);
            }
            int kept = Math.min(acts, 40);
            CHECK.same("acts of " + acts + " that are kept", choir.count(9), kept);
            for (int i = 1; i <= kept; i++) {
                CHECK.same("undo " + i + " of " + acts, choir.undo(), kept - i);
                CHECK.same("the fill then", choir.kettle(0, 3), (acts - i) % 41);
                CHECK.same("acts then", choir.count(9), kept - i);
            }
            CHECK.same("one more than are kept", choir.undo(), NONE);
            CHECK.same("the fill stays", choir.kettle(0, 3), (acts - kept) % 41);
        }
    }

    private static void lastOneFirst() {
        CHECK.says("They are UNDONE, the last one first.");
        KettleChoir choir = CHECK.choir("tin 5 20 5 4;tin 8 20 5 0;stove 40;stove 40;dish 3;lifts 2<sung;");
        Twins.Deed[] deeds = {one -> one.scrape(0), one -> one.put(0, 1), one -> one.put(1, 0), one -> one.minutes(3),
            one -> one.put(0, 1), one -> one.pour(0, 9), one -> one.minutes(7), one -> one.lift(0), one -> one.minutes(30)};
        List<List<Integer>> was = new ArrayList<>();
        for (int i = 0; i <= deeds.length; i++) {
            KettleChoir fresh = CHECK.choir("tin 5 20 5 4;tin 8 20 5 0;stove 40;stove 40;dish 3;lifts 2<sung;");
            for (int j = 0; j < i; j++) {
                deeds[j].doTo(fresh);
            }
            was.add(row(fresh));
        }
        for (Twins.Deed deed : deeds) {
            deed.doTo(choir);
        }
        for (int acts = choir.count(9); acts > 0; acts--) {
            CHECK.same("undo", choir.undo(), acts - 1);
            int ahead = lastWith(was, acts - 1);
            CHECK.holds("as it was ahead of act " + acts, row(choir).equals(was.get(ahead)));
        }
    }

    /** What acts change: all but STATUS. */
    private static List<Integer> row(KettleChoir choir) {
        List<Integer> row = new ArrayList<>();
        for (int what = 3; what <= 9; what++) {
            row.add(choir.count(what));
        }
        for (int i = 0; i < 18; i++) {
            row.add(choir.kettle(i / 9, i % 9));
        }
        row.add(choir.dish(0, -2));
        return row;
    }

    private static int lastWith(List<List<Integer>> rows, int acts) {
        int last = 0;
        for (int i = 0; i < rows.size(); i++) {
            last = rows.get(i).get(6) == acts ? i : last;
        }
        return last;
    }

    private static void undoNothing() {
        CHECK.says("The last ACT is UNDONE: how many are left. NONE: there is none.");
        Twins none = new Twins(CHECK, () -> {
            KettleChoir choir = Twins.busy();
            for (int i = 0; i < 6; i++) {
                choir.undo();
            }
            return choir;
        });
        none.unchanged("undo()", choir -> CHECK.same("undo()", choir.undo(), NONE));
        KettleChoir choir = new KettleChoir();
        CHECK.same("of a new one", choir.undo(), NONE);
        choir.minutes(1);
        CHECK.same("of one", choir.undo(), 0);
        CHECK.same("of none", choir.undo(), NONE);
        CHECK.same("no refused act", choir.count(13), 0);
    }

    private static void eachActAlone() {
        CHECK.says("ACTS .. are UNDONE");
        Twins.Deed[] deeds = {choir -> choir.minutes(1), choir -> choir.minutes(30), choir -> choir.put(2, 2),
            choir -> choir.put(0, 2), choir -> choir.lift(0), choir -> choir.lift(1), choir -> choir.pour(0, 0),
            choir -> choir.pour(0, 20), choir -> choir.pour(2, 30)};
        for (int i = 0; i < deeds.length; i++) {
            Twins.Deed deed = deeds[i];
            BUSY.unchanged("act " + i + ", undone", choir -> {
                deed.doTo(choir);
                CHECK.same("acts", choir.count(9), 7);
                CHECK.same("undo()", choir.undo(), 6);
            });
        }
        KettleChoir scraped = CHECK.choir("tin 5 20 5 9;");
        scraped.scrape(0);
        scraped.undo();
        CHECK.same("a scraping undone", scraped.kettle(0, 4), 9);
    }
}
