/**
 * Each promise's own section, from 'Promise 1: A new object' to 'Promise 34: restore', in the document's order: its whole
 * words, and an ordinary answer, an edge and a wrong call for each of them.
 */
public final class PromisesTest {
    private static final Check CHECK = new Check("PromisesTest");
    private static final int NONE = Check.NONE;
    // Both sing from the 10th minute, MINUTE 9, to the 22nd: 8 and 10, and 2 apart from then on; the third is too full.
    private static final String DUO = "tin 5 20 5 0;tin 8 20 5 4;tin 7 20 20 0;stove 10;stove 10;stove 40;dish 2;dish 9 24;";

    public static void main(String[] args) {
        newObject();
        feed();
        kitchen();
        fault();
        count();
        kettle();
        stove();
        dish();
        minutes();
        put();
        lift();
        pour();
        scrape();
        undo();
        then();
        sung();
        done();
        fugue();
        quiet();
        loudest();
        dry();
        soonest();
        tuned();
        chord();
        burner();
        together();
        hear();
        chalk();
        listen();
        forget();
        game();
        evening();
        image();
        restore();
        CHECK.end();
    }

    /** The duo, both on stoves, so many minutes later. */
    private static KettleChoir duo(int minutes) {
        KettleChoir choir = CHECK.choir(DUO);
        choir.put(0, 0);
        choir.put(1, 1);
        if (minutes > 0) {
            choir.minutes(minutes);
        }
        return choir;
    }

    private static void newObject() {
        CHECK.says("The constants: `NONE = -1`: There is none. .. `KettleChoir()`: No KETTLES.");
        CHECK.same("NONE", KettleChoir.NONE, -1);
        KettleChoir choir = new KettleChoir();
        CHECK.same("kettles", choir.count(0), 0);
        for (int k : new int[] {NONE, 0, 1, 7, 8}) {
            CHECK.missing("kettle(" + k + ", 0)", () -> choir.kettle(k, 0));
        }
        CHECK.same("undo()", choir.undo(), NONE);
    }

    private static void feed() {
        CHECK.says("Twenty bytes come behind the tape, of each number the highest first: how many it has; NONE, and none come, if"
                + " it would have more than 600.");
        KettleChoir choir = new KettleChoir();
        CHECK.same("feed", choir.feed(' ' << 24 | 's' << 16 | 't' << 8 | 'o', 0x76652033, ';' << 24 | 0x737461, 0, -1), 20);
        CHECK.same("behind the tape", choir.feed(0, 0, 0, 0, 0x20202020), 40);
        CHECK.same("kitchen(9)", choir.kitchen(9), 0);
        CHECK.same("its stove", choir.stove(0, 0), 3);
        for (int i = 1; i <= 30; i++) {
            CHECK.same("feed", choir.feed(0x20202020, 0x20202020, 0x20202020, 0x20202020, 0x20202020), 20 * i);
        }
        CHECK.same("one more", choir.feed(0x78787878, 0, 0, 0, 0), NONE);
        CHECK.same("none come", choir.count(11), 600);
        CHECK.same("kitchen(600)", choir.kitchen(600), 0);
    }

    private static void kitchen() {
        CHECK.says("The tape's first n bytes (it is empty then) are a KITCHEN, all anew: 0, or the FAULT (all stays, but STATUS)."
                + " ACTS, what is HEARD, the image are gone. IllegalArgumentException: the tape has not so many, n below 0"
                + " (nothing changes).");
        KettleChoir choir = duo(10);
        choir.hear(5, 5);
        choir.image();
        Check.tape(choir, "stove 3;stove 4 5;");
        CHECK.illegal("kitchen(21)", () -> choir.kitchen(21));
        CHECK.illegal("kitchen(-1)", () -> choir.kitchen(-1));
        CHECK.same("nothing changes", choir.count(11) + choir.count(12), 20);
        CHECK.same("a fault", choir.kitchen(18), 1);
        int[] stays = {3, 3, 2, 10, 3, 1, 3, 0, 0, 3, 1, 0, 1, 0, 0};
        for (int what = 0; what <= 14; what++) {
            CHECK.same("count(" + what + ") stays", choir.count(what), stays[what]);
        }
        Check.tape(choir, "stove 3;stove 4 5;");
        CHECK.same("the first 8 bytes", choir.kitchen(8), 0);
        int[] anew = {0, 1, 0, 0, 0, 0, 0, 0, 0, 0, 0, 0, 1, 0, 0};
        for (int what = 0; what <= 14; what++) {
            CHECK.same("count(" + what + ") anew", choir.count(what), anew[what]);
        }
        CHECK.same("acts are gone", choir.undo(), NONE);
        CHECK.same("the image is gone", choir.restore(), false);
    }

    private static void fault() {
        CHECK.says("The place of the latest kitchen()'s FAULT; NONE without.");
        KettleChoir choir = new KettleChoir();
        CHECK.same("without a kitchen", choir.fault(), NONE);
        Check.read(choir, "tin 5 20 5 0;stove 41;");
        CHECK.same("the stove's power", choir.fault(), 19);
        CHECK.illegal("no tape for kitchen(1)", () -> choir.kitchen(1));
        CHECK.same("still the latest", choir.fault(), 19);
        Check.read(choir, "stove");
        CHECK.same("the end of the text", choir.fault(), 5);
        Check.read(choir, "stove 4;");
        CHECK.same("none", choir.fault(), NONE);
    }

    private static void count() {
        CHECK.says("0 KETTLES, 1 STOVES, 2 DISHES, 3 the MINUTE, 4 who sang in the MINUTE ahead (bits; 0 without one), 5 DISHES"
                + " that are READY (bits), 6 LIDS (bits), 7 TAKEN (of those that sang in the MINUTE ahead and don't; bits), 8"
                + " THIRDS: couples that sang 3 or 4 apart in it, 9 ACTS that are kept, 10 HEARD, 11 bytes of the tape, 12 to 14"
                + " STATUS 0 to 2. NoSuchElementException: another what.");
        KettleChoir choir = duo(0);
        choir.put(2, 2);
        choir.minutes(12);
        Check.read(choir, "x");
        choir.minutes(31);
        choir.lift(0);
        choir.lift(0);
        choir.hear(1, 1);
        choir.hear(1, 61);
        choir.hear(0, 1);
        choir.hear(1, -2);
        Check.tape(choir, "stove 3;");
        // HEAT 122: they sing 10 and 12, 2 apart; the third one is as hot as a lid must be, and too full.
        int[] due = {3, 3, 2, 12, 3, 1, 7, 4, 0, 5, 1, 20, 1, 2, 3};
        for (int what = 0; what <= 14; what++) {
            CHECK.same("count(" + what + ")", choir.count(what), due[what]);
        }
        choir.lift(1);
        choir.scrape(1);
        choir.put(1, 0);
        choir.minutes(1);
        CHECK.same("10 by 120, and 14 by 133 without its chalk", choir.count(8), 1);
        for (int wrong : new int[] {NONE, 15, 99}) {
            CHECK.missing("count(" + wrong + ")", () -> choir.count(wrong));
        }
    }

    private static void kettle() {
        CHECK.says("Of a KETTLE: 0 KIND, 1 SPOUT, 2 SIZE, 3 FILL, 4 CHALK, 5 HEAT, 6 its STOVE (NONE), 7 MINUTES it has sung, 8 the"
                + " NOTE that it sang in the MINUTE ahead (NONE: it didn't). NoSuchElementException: no such KETTLE (as"
                + " everywhere), what.");
        KettleChoir choir = duo(11);
        int[][] due = {{0, 5, 20, 4, 0, 111, 0, 2, 9}, {0, 8, 20, 4, 4, 111, 1, 2, 11}, {0, 7, 20, 20, 0, 0, NONE, 0, NONE}};
        for (int k = 0; k < 3; k++) {
            for (int what = 0; what <= 8; what++) {
                CHECK.same("kettle(" + k + ", " + what + ")", choir.kettle(k, what), due[k][what]);
            }
        }
        CHECK.missing("kettle(3, 0)", () -> choir.kettle(3, 0));
        CHECK.missing("kettle(0, 9)", () -> choir.kettle(0, 9));
        CHECK.missing("kettle(0, -1)", () -> choir.kettle(0, NONE));
    }

    private static void stove() {
        CHECK.says("Of a STOVE: 0 POWER, 1 the KETTLE (NONE). NoSuchElementException: no such STOVE (as everywhere), what.");
        KettleChoir choir = duo(0);
        int[][] due = {{10, 0}, {10, 1}, {40, NONE}};
        for (int s = 0; s < 3; s++) {
            CHECK.same("stove(" + s + ", 0)", choir.stove(s, 0), due[s][0]);
            CHECK.same("stove(" + s + ", 1)", choir.stove(s, 1), due[s][1]);
        }
        CHECK.missing("stove(3, 0)", () -> choir.stove(3, 0));
        CHECK.missing("stove(0, 2)", () -> choir.stove(0, 2));
    }

    private static void dish() {
        CHECK.says("Of a DISH: the i-th STEP as told, of i NONE how many, of i -2 the MINUTE in which it became READY (0 the first;"
                + " NONE: it isn't). NoSuchElementException: no such DISH (as everywhere), STEP.");
        KettleChoir choir = duo(30);
        int[][] due = {{9, 1, 2}, {NONE, 2, 9, 24}};
        for (int d = 0; d < 2; d++) {
            int dish = d;
            for (int i = -2; i < due[d].length - 2; i++) {
                CHECK.same("dish(" + d + ", " + i + ")", choir.dish(d, i), due[d][i + 2]);
            }
            CHECK.missing("no such step of dish " + d, () -> choir.dish(dish, due[dish].length - 2));
        }
        CHECK.missing("dish(2, -1)", () -> choir.dish(2, NONE));
    }

    private static void minutes() {
        CHECK.says("MINUTES go by: the MINUTE. NONE (STATUS 1): not 1 to 30, it would be above 9999.");
        KettleChoir choir = duo(0);
        CHECK.same("minutes(30)", choir.minutes(30), 30);
        CHECK.same("minutes(1)", choir.minutes(1), 31);
        CHECK.same("minutes(31)", choir.minutes(31), NONE);
        CHECK.same("minutes(0)", choir.minutes(0), NONE);
        CHECK.same("status 1", choir.count(13), 2);
        CHECK.same("the minute", choir.count(3), 31);
    }

    private static void put() {
        CHECK.says("PUT: true. False (STATUS 1): there is one on it. NoSuchElementException (ahead): no such KETTLE, STOVE.");
        KettleChoir choir = duo(0);
        CHECK.same("there is another one on it", choir.put(2, 0), false);
        CHECK.same("it is on it itself", choir.put(0, 0), false);
        CHECK.same("status 1", choir.count(13), 2);
        CHECK.same("from another one", choir.put(0, 2), true);
        CHECK.same("that is free then", choir.put(2, 0), true);
        CHECK.missing("no such stove", () -> choir.put(0, 3));
        CHECK.missing("no such kettle", () -> choir.put(3, 0));
        CHECK.same("status 1 stays", choir.count(13), 2);
    }

    private static void lift() {
        CHECK.says("LIFTED: its STOVE. NONE (STATUS 1): it is on none.");
        KettleChoir choir = duo(0);
        CHECK.same("lift(1)", choir.lift(1), 1);
        CHECK.same("again", choir.lift(1), NONE);
        CHECK.same("status 1", choir.count(13), 1);
        CHECK.missing("lift(3)", () -> choir.lift(3));
    }

    private static void pour() {
        CHECK.says("POURED: its HEAT then. NONE (STATUS 1): not 0 to SIZE, FILL is so.");
        KettleChoir choir = duo(7);
        CHECK.same("70 by 5 by 9", choir.pour(0, 9), 38);
        CHECK.same("less", choir.pour(0, 0), 38);
        CHECK.same("from nothing", choir.pour(0, 20), 0);
        for (int wrong : new int[] {NONE, 20, 21}) {
            CHECK.same("pour(0, " + wrong + ")", choir.pour(0, wrong), NONE);
        }
        CHECK.same("status 1", choir.count(13), 3);
        CHECK.missing("pour(3, 5)", () -> choir.pour(3, 5));
    }

    private static void scrape() {
        CHECK.says("SCRAPED: CHALK as it was. NONE (STATUS 1): it is on a STOVE, has none.");
        KettleChoir choir = duo(0);
        CHECK.same("it is on a stove", choir.scrape(1), NONE);
        choir.lift(1);
        CHECK.same("scrape(1)", choir.scrape(1), 4);
        CHECK.same("it has none", choir.scrape(1), NONE);
        CHECK.same("status 1", choir.count(13), 2);
        CHECK.missing("scrape(3)", () -> choir.scrape(3));
    }

    private static void undo() {
        CHECK.says("The last ACT is UNDONE: how many are left. NONE: there is none.");
        KettleChoir choir = duo(10);
        CHECK.same("minutes", choir.undo(), 2);
        CHECK.same("the minute", choir.count(3), 0);
        CHECK.same("a put", choir.undo(), 1);
        CHECK.same("on none", choir.kettle(1, 6), NONE);
        CHECK.same("the first one", choir.undo(), 0);
        CHECK.same("none", choir.undo(), NONE);
        CHECK.same("no status", choir.count(13), 0);
    }

    private static void then() {
        CHECK.says("THEN: the NOTE; NONE: it doesn't SING. IllegalArgumentException (behind NoSuchElementException): not 1 to"
                + " 120.");
        KettleChoir choir = duo(0);
        CHECK.same("then(0, 9)", choir.then(0, 9), NONE);
        CHECK.same("then(0, 10)", choir.then(0, 10), 8);
        CHECK.same("then(1, 10), less a third of 4", choir.then(1, 10), 10);
        CHECK.same("then(0, 120)", choir.then(0, 120), NONE);
        CHECK.illegal("then(0, 0)", () -> choir.then(0, 0));
        CHECK.illegal("then(0, 121)", () -> choir.then(0, 121));
        CHECK.missing("then(3, 0)", () -> choir.then(3, 0));
    }

    private static void sung() {
        CHECK.says("SUNG; NONE: none.");
        KettleChoir choir = duo(0);
        CHECK.same("sung(0)", choir.sung(0), 10);
        CHECK.same("sung(2)", choir.sung(2), NONE);
        CHECK.missing("sung(3)", () -> choir.sung(3));
    }

    private static void done() {
        CHECK.says("DONE (1 to 120); NONE: none.");
        CHECK.same("done(0)", duo(0).done(0), 10);
        CHECK.same("done(0): it is", duo(10).done(0), 0);
        CHECK.same("done(1)", duo(0).done(1), NONE);
        KettleChoir choir = duo(0);
        CHECK.missing("done(2)", () -> choir.done(2));
    }

    private static void fugue() {
        CHECK.says("A FUGUE (1 to 120); NONE: none. IllegalArgumentException: not 1 to 8.");
        KettleChoir choir = duo(0);
        CHECK.same("fugue(2)", choir.fugue(2), 10);
        CHECK.same("fugue(3)", choir.fugue(3), NONE);
        CHECK.same("fugue(8)", choir.fugue(8), NONE);
        CHECK.illegal("fugue(0)", () -> choir.fugue(0));
        CHECK.illegal("fugue(9)", () -> choir.fugue(9));
    }

    private static void quiet() {
        CHECK.says("QUIET (1 to 120; of the first one the MINUTE ahead counts as it was); NONE: none.");
        CHECK.same("behind the 22nd", duo(0).quiet(), 23);
        KettleChoir choir = duo(22);
        CHECK.same("the minute ahead", choir.quiet(), 1);
        choir.minutes(1);
        CHECK.same("never more", choir.quiet(), NONE);
    }

    private static void loudest() {
        CHECK.says("THE LOUDEST MINUTE (1 to 60, if only MINUTES go by): in which most SING (of like ones the first; what 0; NONE:"
                + " nobody ever), how many (1; 0: nobody). NoSuchElementException: another what.");
        KettleChoir choir = duo(0);
        CHECK.same("when", choir.loudest(0), 10);
        CHECK.same("how many", choir.loudest(1), 2);
        KettleChoir cold = CHECK.choir(DUO);
        CHECK.same("never", cold.loudest(0), NONE);
        CHECK.same("nobody", cold.loudest(1), 0);
        CHECK.missing("loudest(2)", () -> cold.loudest(2));
    }

    private static void dry() {
        CHECK.says("DRY (1 to 120; 0: it is); NONE: none.");
        KettleChoir choir = duo(0);
        CHECK.same("dry(0)", choir.dry(0), 22);
        CHECK.same("dry(2)", choir.dry(2), NONE);
        CHECK.same("dry(0): it is", duo(22).dry(0), 0);
        CHECK.missing("dry(3)", () -> choir.dry(3));
    }

    /** 8 and 10 in the 10th minute by both stoves of POWER 10; by the one of 40 either is much higher by then. */
    private static void soonest() {
        CHECK.says("SOONEST: when (i NONE), the KETTLE on STOVE i (NONE: none); all NONE, if it can't be, or is READY."
                + " NoSuchElementException: also no such STOVE.");
        KettleChoir choir = CHECK.choir(DUO);
        int[] due = {10, 0, 1, NONE};
        for (int i = NONE; i < 3; i++) {
            CHECK.same("soonest(0, " + i + ")", choir.soonest(0, i), due[i + 1]);
            CHECK.same("soonest(1, " + i + "), which can't be", choir.soonest(1, i), NONE);
            CHECK.same("soonest(0, " + i + "), which is ready", duo(10).soonest(0, i), NONE);
        }
        CHECK.missing("soonest(2, -1)", () -> choir.soonest(2, NONE));
        CHECK.missing("soonest(0, 3)", () -> choir.soonest(0, 3));
        CHECK.missing("soonest(0, -2)", () -> choir.soonest(0, -2));
    }

    private static void tuned() {
        CHECK.says("TUNED: the FILL; NONE: none. IllegalArgumentException (behind NoSuchElementException): not 0 to 60.");
        KettleChoir choir = CHECK.choir(DUO);
        CHECK.same("tuned(0, 7)", choir.tuned(0, 7), 6);
        CHECK.same("tuned(1, 8)", choir.tuned(1, 8), 11);
        CHECK.same("tuned(0, 60)", choir.tuned(0, 60), NONE);
        CHECK.same("tuned(0, 0)", choir.tuned(0, 0), NONE);
        CHECK.illegal("tuned(0, 61)", () -> choir.tuned(0, 61));
        CHECK.illegal("tuned(0, -1)", () -> choir.tuned(0, NONE));
        CHECK.missing("tuned(3, 61)", () -> choir.tuned(3, 61));
    }

    private static void chord() {
        CHECK.says("THE CHORD: cups; NONE: none.");
        KettleChoir choir = CHECK.choir(DUO);
        CHECK.same("8 and 10 as they are", choir.chord(0), 0);
        CHECK.same("three notes so far apart", choir.chord(1), NONE);
        CHECK.missing("chord(2)", () -> choir.chord(2));
    }

    private static void burner() {
        CHECK.says("A BURNER: POWER; NONE: none. IllegalArgumentException (behind NoSuchElementException): not 1 to 120.");
        KettleChoir choir = CHECK.choir(DUO);
        CHECK.same("burner(0, 5): 20 each", choir.burner(0, 5), 20);
        CHECK.same("burner(0, 2)", choir.burner(0, 2), NONE);
        CHECK.same("burner(0, 120): 1 each", choir.burner(0, 120), 1);
        CHECK.same("burner(2, 120)", choir.burner(2, 120), NONE);
        CHECK.illegal("burner(0, 0)", () -> choir.burner(0, 0));
        CHECK.illegal("burner(0, 121)", () -> choir.burner(0, 121));
        CHECK.missing("burner(3, 0)", () -> choir.burner(3, 0));
    }

    private static void together() {
        CHECK.says("TOGETHER: in how many. IllegalArgumentException (behind NoSuchElementException): both are one, POWER, STEPS.");
        KettleChoir choir = CHECK.choir(DUO);
        CHECK.same("2 apart", choir.together(0, 1, 10, 2), 13);
        CHECK.same("3 apart", choir.together(0, 1, 10, 3), 0);
        CHECK.same("one that doesn't sing", choir.together(0, 2, 40, 2), 0);
        CHECK.illegal("both are one", () -> choir.together(1, 1, 10, 2));
        CHECK.illegal("power 0", () -> choir.together(0, 1, 0, 2));
        CHECK.illegal("power 41", () -> choir.together(0, 1, 41, 2));
        CHECK.illegal("steps -1", () -> choir.together(0, 1, 10, NONE));
        CHECK.illegal("steps 25", () -> choir.together(0, 1, 10, 25));
        CHECK.missing("no such kettle", () -> choir.together(3, 3, 0, 25));
        CHECK.missing("no such other one", () -> choir.together(0, 3, 0, 25));
    }

    private static void hear() {
        CHECK.says("HEARD (NONE: none sings): how much is. NONE (STATUS 2): there are 8, not 1 to 60 MINUTES, not NONE to 60.");
        KettleChoir choir = duo(0);
        int[][] wrong = {{0, 5}, {61, 5}, {5, -2}, {5, 61}};
        for (int[] w : wrong) {
            CHECK.same("hear(" + w[0] + ", " + w[1] + ")", choir.hear(w[0], w[1]), NONE);
        }
        CHECK.same("hear(9, NONE)", choir.hear(9, NONE), 1);
        CHECK.same("so it is", choir.chalk(2), 1);
        CHECK.same("hear(10, NONE)", choir.hear(10, NONE), 2);
        CHECK.same("so it isn't", choir.chalk(2), 0);
        for (int i = 3; i <= 8; i++) {
            CHECK.same("hear " + i, choir.hear(60, 60), i);
        }
        CHECK.same("there are 8", choir.hear(60, 60), NONE);
        CHECK.same("status 2", choir.count(14), 5);
    }

    private static void chalk() {
        CHECK.says("THE CHALK: how many (what 0), the first (1; NONE: none), whether without (2). NoSuchElementException: another"
                + " what.");
        KettleChoir choir = duo(0);
        choir.hear(10, 7);
        CHECK.same("the first one's 3, 4, 5", choir.chalk(0), 3);
        CHECK.same("the first", choir.chalk(1), 3);
        CHECK.same("without", choir.chalk(2), 0);
        choir.hear(10, 11);
        CHECK.same("by none", choir.chalk(0), 0);
        CHECK.same("no first", choir.chalk(1), NONE);
        choir.forget();
        choir.hear(10, 11);
        CHECK.same("the second one's 0, 1, 2", choir.chalk(0), 3);
        CHECK.same("the first: kettle 1, chalk 0", choir.chalk(1), 10);
        CHECK.missing("chalk(3)", () -> choir.chalk(3));
        CHECK.missing("chalk(-1)", () -> choir.chalk(NONE));
    }

    private static void listen() {
        CHECK.says("LISTEN: the MINUTE (what 0; NONE), how many (1; 0: none). NoSuchElementException: another what.");
        KettleChoir choir = duo(0);
        CHECK.same("the minute", choir.listen(0), 10);
        // With 10: 8, 7, 6 or none; with 8: 11, 9 or none, which is 8 alone.
        CHECK.same("unlike choirs", choir.listen(1), 4 + 3);
        choir.hear(1, 5);
        CHECK.same("no minute", choir.listen(0), NONE);
        CHECK.same("no choir", choir.listen(1), 0);
        CHECK.missing("listen(2)", () -> choir.listen(2));
    }

    private static void forget() {
        CHECK.says("All that is HEARD is forgotten.");
        KettleChoir choir = duo(0);
        choir.hear(1, 5);
        choir.hear(2, 5);
        choir.forget();
        CHECK.same("heard", choir.count(10), 0);
        CHECK.same("so it is", choir.chalk(2), 1);
        CHECK.same("from 1 on again", choir.hear(1, NONE), 1);
    }

    private static void game() {
        CHECK.says("A GAME (who SINGS, as in the MINUTE ahead): how many couples rest (what 0), the first (1; NONE: none)."
                + " NoSuchElementException: also another what. IllegalArgumentException (behind that): both are one.");
        KettleChoir choir = duo(10);
        CHECK.same("8 and 10: one of both is lifted off", choir.game(0, 1, 0), 2);
        CHECK.same("the first keeps none", choir.game(0, 1, 1), 1);
        choir.lift(0);
        CHECK.same("as in the minute ahead", choir.game(0, 1, 0), 2);
        CHECK.same("one doesn't sing", choir.game(0, 2, 0), 0);
        CHECK.same("no first", choir.game(2, 1, 1), NONE);
        CHECK.missing("no such kettle", () -> choir.game(3, 3, 2));
        CHECK.missing("no such other one", () -> choir.game(0, 3, 0));
        CHECK.missing("another what", () -> choir.game(0, 0, 2));
        CHECK.illegal("both are one", () -> choir.game(0, 0, 1));
    }

    private static void evening() {
        CHECK.says("EVENINGS: DISHES (what 0), MINUTES (1), the highest NOTE (2). NoSuchElementException: another what."
                + " IllegalArgumentException (behind that): n.");
        KettleChoir choir = duo(10);
        CHECK.same("dishes in no minutes", choir.evening(5, 0, 0), 1);
        CHECK.same("minutes of none", choir.evening(5, 0, 1), 0);
        CHECK.same("no note of none", choir.evening(5, 0, 2), 0);
        // Whatever is drawn, HEAT 98 or 111 and FILL 4: 9 and 11, or the one of both that isn't lifted off.
        for (int seed = 0; seed < 20; seed++) {
            CHECK.same("somebody sings in the first minute", choir.evening(seed, 1, 1), 1);
            int highest = choir.evening(seed, 1, 2);
            CHECK.holds("the highest note is one of both", highest == 9 || highest == 11);
            CHECK.same("the dish stays ready", choir.evening(seed, 90, 0), 1);
        }
        CHECK.missing("another what", () -> choir.evening(5, 91, 3));
        CHECK.illegal("n", () -> choir.evening(5, 91, 2));
        CHECK.illegal("n below 0", () -> choir.evening(5, NONE, 0));
    }

    private static void image() {
        CHECK.says("AN IMAGE is kept, in place of another one.");
        KettleChoir choir = duo(0);
        choir.image();
        choir.minutes(3);
        choir.image();
        choir.minutes(4);
        choir.restore();
        CHECK.same("the later one", choir.count(3), 3);
        choir.restore();
        CHECK.same("alone", choir.count(3), 3);
    }

    private static void restore() {
        CHECK.says("It is as the IMAGE again: true. False: there is none.");
        KettleChoir choir = duo(10);
        CHECK.same("none", choir.restore(), false);
        choir.hear(4, 4);
        choir.hear(0, 4);
        choir.image();
        int[] was = new int[15];
        for (int what = 0; what <= 14; what++) {
            was[what] = choir.count(what);
        }
        choir.forget();
        choir.undo();
        choir.lift(2);
        choir.pour(0, 20);
        choir.hear(0, 4);
        CHECK.same("restore()", choir.restore(), true);
        for (int what = 0; what <= 14; what++) {
            CHECK.same("count(" + what + ")", choir.count(what), was[what]);
        }
        CHECK.same("the fill", choir.kettle(0, 3), 4);
        CHECK.same("acts", choir.undo(), 2);
    }
}
