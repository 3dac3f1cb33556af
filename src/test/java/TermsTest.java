/**
 * 'What it is' and the Terms of the document, from the first line to ==== 4, sentence by sentence with plain numbers that
 * can be reckoned by hand; the bounds of the same sentences are the *EdgeTests'.
 */
public final class TermsTest {
    private static final Check CHECK = new Check("TermsTest");
    private static final int NONE = Check.NONE;
    private static final String[] KINDS = {"tin", "copper", "iron", "enamel"};

    public static void main(String[] args) {
        whatItIs();
        kettlesStovesDishes();
        aRule();
        tokens();
        linesInAnyOrder();
        linesOfNumbers();
        exprs();
        exprFromTheLeft();
        valuesOfAKettle();
        faultOneAndTwo();
        minuteInItsOrder();
        minuteHeat();
        minuteNote();
        minuteDishes();
        minuteCups();
        minuteCook();
        acts();
        ahead();
        soonest();
        tunedAndChord();
        burnerAndTogether();
        heardAndChalk();
        lidsAndGame();
        evening();
        eveningSeed();
        CHECK.end();
    }

    /** The tin one sings 8 in the 10th minute, when the copper one sings 9 and 3 less 1, 11. */
    private static void whatItIs() {
        CHECK.says("A choir of kettles: kettles of tin, copper, iron and enamel, by their spouts, sizes, chalk, stoves that"
                + " heat them, minute by minute; each sings by how hot and how full it is, dishes are ready by chords, a cook"
                + " lifts one off by a rule in a language; putting on, lifting, pouring, scraping, all undone; what each sings"
                + " when, thirds, fugues, lids, when a dish is ready, how kettles should stand on stoves so that it is soonest,"
                + " with how few cups they are tuned, which can sing a chord, what it would take; what the chalk is by what was"
                + " heard, when to listen, whom the deaf one takes for another, a game of two cooks, evenings by a seed.");
        KettleChoir choir = CHECK.choir("tin 5 20 5 0;copper 9 20 5 0;iron 5 20 18 0;enamel 5 20 19 2;stove 10;stove 10;"
                + "dish 3;lifts note=11;");
        CHECK.same("scraping", choir.scrape(3), 2);
        CHECK.same("putting on", choir.put(0, 0) && choir.put(1, 1), true);
        CHECK.same("what each sings when", choir.then(1, 10), 11);
        CHECK.same("first", choir.sung(0), 10);
        CHECK.same("fugues", choir.fugue(2), 10);
        CHECK.same("when a dish is ready", choir.done(0), 10);
        CHECK.same("how soon it can be", choir.soonest(0, NONE), 10);
        CHECK.same("with whom on stove 1", choir.soonest(0, 1), 1);
        CHECK.same("how they are tuned", choir.tuned(0, 8), 5);
        CHECK.same("with how few cups", choir.chord(0), 0);
        CHECK.same("what it would take", choir.burner(0, 10), 10);
        CHECK.same("both so many apart", choir.together(0, 1, 10, 3), 13);
        CHECK.same("minute by minute", choir.minutes(10), 10);
        CHECK.same("dishes are ready by chords", choir.count(5), 1);
        CHECK.same("the cook lifts one off", choir.kettle(1, 6), NONE);
        CHECK.same("thirds", choir.count(8), 1);
        CHECK.same("lids", choir.count(6), 3);
        CHECK.same("whom the deaf one takes for another", choir.count(7), 0);
        CHECK.same("a game of two cooks", choir.game(0, 1, 1), 11);
        CHECK.same("when to listen: 9, 8, 7 or nothing at once", 10 * choir.listen(0) + choir.listen(1), 14);
        CHECK.same("what was heard", choir.hear(1, 8), 1);
        CHECK.same("what the chalk is: the tin one's is 3", choir.chalk(1), 3);
        CHECK.same("evenings: no minutes", choir.evening(1, 0, 0), 1);
        CHECK.same("lifting", choir.lift(0), 0);
        CHECK.same("pouring", choir.pour(2, 9), 0);
        CHECK.same("all undone", choir.undo() + choir.undo() + choir.undo(), 5 + 4 + 3);
        CHECK.same("when", choir.count(3), 0);
    }

    private static void kettlesStovesDishes() {
        CHECK.says("KETTLES 0, 1 .. (at most 8): a KIND (0 tin, 1 copper, 2 iron, 3 enamel), SPOUT (1 to 24), SIZE (1 to 40"
                + " cups), FILL (0 to SIZE), CHALK (0 to 9). STOVES 0, 1 .. (at most 4): POWER (1 to 40). DISHES 0, 1 .. (at"
                + " most 5): 1 to 3 STEPS (1 to 24 each).");
        StringBuilder text = new StringBuilder();
        for (int k = 0; k < 8; k++) {
            text.append(KINDS[(k + 1) % 4]).append(" ").append(24 - 3 * k).append(" ").append(40 - k).append(" ")
                    .append(4 * k).append(" ").append(9 - k).append(";");
        }
        text.append("stove 1;stove 40;stove 17;stove 23;dish 24;dish 1 24;dish 3 2 1;dish 7 11;dish 5;");
        KettleChoir choir = CHECK.choir(text.toString());
        for (int k = 0; k < 8; k++) {
            int[] due = {(k + 1) % 4, 24 - 3 * k, 40 - k, 4 * k, 9 - k};
            for (int what = 0; what < 5; what++) {
                CHECK.same("kettle(" + k + ", " + what + ")", choir.kettle(k, what), due[what]);
            }
        }
        int[] powers = {1, 40, 17, 23};
        for (int s = 0; s < 4; s++) {
            CHECK.same("the power of stove " + s, choir.stove(s, 0), powers[s]);
        }
        int[][] steps = {{24}, {1, 24}, {3, 2, 1}, {7, 11}, {5}};
        for (int d = 0; d < 5; d++) {
            CHECK.same("how many steps dish " + d + " has", choir.dish(d, NONE), steps[d].length);
            for (int i = 0; i < steps[d].length; i++) {
                CHECK.same("step " + i + " of dish " + d, choir.dish(d, i), steps[d][i]);
            }
        }
    }

    private static void aRule() {
        CHECK.says("LIFTS: a rule.");
        KettleChoir choir = CHECK.choir("tin 5 20 5 0;stove 10;lifts heat=20;stove 10;tin 5 20 15 0;");
        choir.put(0, 0);
        choir.put(1, 1);
        choir.minutes(2);
        CHECK.same("heat 20", choir.kettle(0, 6), NONE);
        CHECK.same("heat 10", choir.kettle(1, 6), 1);
        choir.minutes(2);
        CHECK.same("heat 20 of the other one, by the same rule", choir.kettle(1, 6), NONE);
    }

    private static void tokens() {
        CHECK.says("A TEXT of at most 600 bytes tells it. TOKENS: words (a .. z, the longest row), NUMBERS (1 to 4 digits),"
                + " signs ; ( ) + - * / < = ; blanks (32, 10) between them count for nothing.");
        // The same kitchen with as few blanks as can be, and with many.
        String[] alike = {"tin5 20 5 2;stove7;dish3 4;lifts(heat+1*2-3/4<9)=1;",
            " tin \n 05 0020\n5 02 \n;\n\nstove  7 ;dish\n3\n4 ; lifts ( heat + 1 * 2 - 3 / 4 < 9 ) = 1 ;\n "};
        for (String text : alike) {
            KettleChoir choir = CHECK.choir(text);
            int[] due = {0, 5, 20, 5, 2};
            for (int what = 0; what < 5; what++) {
                CHECK.same("kettle(0, " + what + ") of " + text, choir.kettle(0, what), due[what]);
            }
            CHECK.same("the stove of " + text, choir.stove(0, 0), 7);
            CHECK.same("the steps of " + text, 10 * choir.dish(0, 0) + choir.dish(0, 1), 34);
            choir.put(0, 0);
            choir.minutes(1);
            CHECK.same("its rule: 7 and 2 is 9", choir.kettle(0, 6), 0);
        }
        fault("ti n 5 20 5 2;", 1, 0);
        fault("tinn 5 20 5 2;", 1, 0);
        fault("tin 5 2 0 5 2;", 1, 12);
        fault("lifts he at;", 3, 6);
        fault("lifts 1 < = 2;", 1, 10);
        for (char sign : ";()+-*/<=".toCharArray()) {
            fault("stove " + sign, 1, 6);
            fault("" + sign, 1, 0);
        }
        String longest = "stove 5;" + "\n".repeat(584) + "stove 6;";
        CHECK.same("bytes of the longest text", longest.length(), 600);
        CHECK.same("its second stove", CHECK.choir(longest).stove(1, 0), 6);
    }

    private static void fault(String text, int due, int place) {
        KettleChoir choir = new KettleChoir();
        CHECK.same("the fault of '" + text + "'", Check.read(choir, text), due);
        CHECK.same("its place in '" + text + "'", choir.fault(), place);
    }

    private static void linesInAnyOrder() {
        CHECK.says("In quotes is what stands there, [ ] perhaps, * any number of times, | one of some. KITCHEN: LINE*.");
        String[] lines = {"tin 5 20 5 0;", "stove 10;", "dish 3;", "lifts 0;"};
        fault("", 0, NONE);
        for (int first = 0; first < 4; first++) {
            fault(lines[first], 0, NONE);
            for (int second = 0; second < 4; second++) {
                boolean twoRules = first == 3 && second == 3;
                fault(lines[first] + lines[second], twoRules ? 5 : 0, twoRules ? 8 : NONE);
                KettleChoir choir = new KettleChoir();
                Check.read(choir, lines[first] + lines[second]);
                for (int what = 0; what < 3; what++) {
                    int due = (first == what ? 1 : 0) + (second == what ? 1 : 0);
                    CHECK.same("count(" + what + ") of " + lines[first] + lines[second], choir.count(what), due);
                }
            }
        }
    }

    private static void linesOfNumbers() {
        CHECK.says("LINE: (('tin' | 'copper' | 'iron' | 'enamel') SPOUT SIZE FILL CHALK | 'stove' POWER | 'dish' STEP STEP* |"
                + " 'lifts' EXPR) ';', all in capitals but EXPR being NUMBERS.");
        for (int kind = 0; kind < 4; kind++) {
            CHECK.same("the kind of " + KINDS[kind], CHECK.choir(KINDS[kind] + " 1 1 1 1;").kettle(0, 0), kind);
            lineOf(KINDS[kind], 4, 4);
        }
        lineOf("stove", 1, 1);
        lineOf("dish", 1, 3);
        lineOf("lifts", 1, 1);
        fault("tin 5 note 5 0;", 1, 6);
        fault("stove heat;", 1, 6);
        fault("dish (3);", 1, 5);
        fault("stove 5+5;", 1, 7);
        fault("lifts 5+5;", 0, NONE);
        fault("lifts heat;", 0, NONE);
    }

    /** A LINE of this word with 0 to 4 NUMBERS, ended by a ';' or not at all. */
    private static void lineOf(String word, int least, int most) {
        String text = word;
        for (int many = 0; many <= 5; many++) {
            if (many < least) {
                fault(text + ";", 1, text.length());
            } else if (many <= most) {
                fault(text + ";", 0, NONE);
                fault(text, 1, text.length());
                fault(text + ")", 1, text.length());
            } else {
                fault(text + ";", word.equals("dish") ? 2 : 1, word.length() + 1 + 2 * most);
            }
            text += " " + (word.equals("dish") ? 1 + many : 1);
        }
    }

    /** Whether a kettle of HEAT 10, FILL 5, CHALK 2 that doesn't sing is lifted off by a rule. */
    private static boolean lifts(String rule) {
        KettleChoir choir = CHECK.choir("tin 5 20 5 2;stove 10;lifts " + rule + ";");
        choir.put(0, 0);
        choir.minutes(1);
        return choir.kettle(0, 6) == NONE;
    }

    private static void gives(String rule, int due) {
        String wanted = due < 0 ? "0-" + -due : "" + due;
        CHECK.holds(rule + " gives " + due, lifts("(" + rule + ")=" + wanted));
        CHECK.holds(rule + " gives no other", !lifts("not (" + rule + ")=" + wanted));
    }

    private static void exprs() {
        CHECK.says("EXPR: AND ('or' AND)*. AND: NOT ('and' NOT)*. NOT: 'not' NOT | SUM [('<' | '=') SUM]. SUM: PRODUCT"
                + " (('+' | '-') PRODUCT)*. PRODUCT: PART (('*' | '/') PART)*. PART: NUMBER | VALUE | '(' EXPR ')'.");
        gives("0 or 0 or 7", 1);
        gives("1 or 0 and 0", 1);
        gives("0 and 0 or 1", 1);
        gives("1 and 1 and 0", 0);
        gives("not 1 or 1", 1);
        gives("not 0 and 0", 0);
        gives("not not 0", 0);
        gives("not 2<1", 1);
        gives("not 2=2", 0);
        gives("1+2<2+2", 1);
        gives("2*3=12/2", 1);
        gives("1+2*3-8/4", 5);
        gives("2*(3+4)", 14);
        gives("2*(3<4)", 2);
        gives("2*(0 or 5)", 2);
        gives("2*(not 5)", 0);
        gives("((5))", 5);
        fault("lifts 1 < 2 < 3;", 1, 12);
        fault("lifts 1 = 2 = 3;", 1, 12);
        fault("lifts 1 < 2 = 3;", 1, 12);
        fault("lifts 1 < 2 and 2 < 3;", 0, NONE);
        fault("lifts 1 + not 2;", 3, 10);
        fault("lifts 2 * * 3;", 1, 10);
        fault("lifts (1;", 1, 8);
        fault("lifts 1);", 1, 7);
    }

    private static void exprFromTheLeft() {
        CHECK.says("From the left; ints that wrap, / cut down to 0, by 0 gives 0; tests, not, and, or are 1 or 0 (what isn't 0"
                + " holds).");
        gives("20-5-3", 12);
        gives("40/4/2", 5);
        gives("7/2*2", 6);
        gives("2-3+4", 3);
        // 9999 by 9999 by 43 is 4299140043, and 4172747 above 2 to the 32.
        gives("9999*9999*43/1000", 4172);
        gives("(0-9)/2", -4);
        gives("9/(0-2)", -4);
        gives("9/0", 0);
        gives("(0-9)/0", 0);
        gives("(3<5)+(3=3)*4+(not 0)", 6);
    }

    /** Two on stoves sing 8 and 11 in the 10th minute, and have lost a cup in it; a third one on none. */
    private static void valuesOfAKettle() {
        CHECK.says("VALUES of a KETTLE: 'note' (0, if it doesn't sing), 'sung' (how many MINUTES it has sung so far, this one"
                + " too), 'third' (1, if it SINGS, and another one 3 or 4 higher, else 0), 'heat', 'fill', 'chalk', 'singers'"
                + " (how many sing).");
        value("note", 8, 11);
        value("sung", 1, 1);
        value("third", 1, 0);
        value("heat", 100, 100);
        value("fill", 4, 4);
        value("chalk", 1, 2);
        value("singers", 2, 2);
        value("note*0+note", 8, 11);
        value("heat-fill*chalk", 96, 92);
    }

    private static void value(String value, int first, int second) {
        for (int due : new int[] {first, second}) {
            KettleChoir choir = CHECK.choir("tin 5 20 5 1;tin 8 20 5 2;stove 10;stove 10;lifts heat=100 and " + value + "="
                    + due + ";");
            choir.put(0, 0);
            choir.put(1, 1);
            choir.minutes(10);
            CHECK.same("whether the first one's " + value + " is " + due, choir.kettle(0, 6) == NONE, first == due);
            CHECK.same("whether the second one's " + value + " is " + due, choir.kettle(1, 6) == NONE, second == due);
        }
    }

    private static void faultOneAndTwo() {
        CHECK.says("2 one that can, but is too much: a NUMBER of 5 digits or more, or (not in an EXPR) not as told (a FILL"
                + " above its SIZE)");
        fault("tin 5 20 21 0;", 2, 9);
        fault("tin 5 20 20 0;", 0, NONE);
        fault("tin 5 9 9999 0;", 2, 8);
        fault("tin 5 9 10000 0;", 2, 8);
        fault("tin 9999 9 9 0;", 2, 4);
        fault("stove 9999;", 2, 6);
        fault("dish 9999;", 2, 5);
        fault("lifts 9999;", 0, NONE);
        fault("lifts 0;", 0, NONE);
        fault("lifts 10000;", 2, 6);
        fault("10000;", 1, 0);
        fault("tin 5 9 9 0 10000;", 1, 12);
    }

    /** In MINUTE 9 they get HEAT 100, sing with 6 cups, make the dish ready, lose a cup, and are lifted off. */
    private static void minuteInItsOrder() {
        CHECK.says("A MINUTE: first, each KETTLE on a STOVE gets HEAT .. Then it SINGS .. Then DISHES .. Then, if the MINUTE"
                + " MOD 3 is 0, each that SINGS loses a cup of its FILL .. Then the cook goes from KETTLE to KETTLE .. The"
                + " MINUTE is 1 more then.");
        KettleChoir choir = CHECK.choir("tin 5 10 6 0;tin 8 10 6 0;stove 11;stove 11;dish 3;"
                + "lifts heat=100 and fill=5 and (note=5 or note=8);");
        choir.put(0, 0);
        choir.put(1, 1);
        choir.minutes(9);
        CHECK.same("heat 90", choir.kettle(0, 5), 90);
        CHECK.same("nobody sang", choir.count(4), 0);
        CHECK.same("minutes(1)", choir.minutes(1), 10);
        int[] due = {0, 5, 10, 5, 0, 100, NONE, 1, 5};
        for (int what = 0; what < due.length; what++) {
            CHECK.same("kettle(0, " + what + ")", choir.kettle(0, what), due[what]);
        }
        CHECK.same("the other one's note", choir.kettle(1, 8), 8);
        CHECK.same("lifted off, too", choir.kettle(1, 6), NONE);
        CHECK.same("ready in minute 9", choir.dish(0, -2), 9);
        choir.minutes(1);
        CHECK.same("heat first: 98", choir.kettle(0, 5), 98);
        CHECK.same("then nobody sings", choir.count(4), 0);
    }

    private static void minuteHeat() {
        CHECK.says("first, each KETTLE on a STOVE gets HEAT: 10 times POWER by FILL and 5 (iron: FILL and 10), cut down, but 1"
                + " at least, up to 150; each other one loses 2 (enamel 1), not below 0.");
        int[] gains = {17, 17, 13, 17};
        for (int kind = 0; kind < 4; kind++) {
            KettleChoir choir = CHECK.choir(KINDS[kind] + " 5 20 12 0;stove 30;");
            choir.put(0, 0);
            choir.minutes(2);
            CHECK.same("the heat of " + KINDS[kind], choir.kettle(0, 5), 2 * gains[kind]);
            choir.lift(0);
            choir.minutes(3);
            CHECK.same("what " + KINDS[kind] + " loses", choir.kettle(0, 5), 2 * gains[kind] - (kind == 3 ? 3 : 6));
            choir.minutes(30);
            CHECK.same("not below 0: " + KINDS[kind], choir.kettle(0, 5), kind == 3 ? 1 : 0);
            choir.minutes(2);
            CHECK.same("not below 0 either: " + KINDS[kind], choir.kettle(0, 5), 0);
        }
        KettleChoir slow = CHECK.choir("tin 5 40 40 0;stove 2;stove 40;");
        slow.put(0, 0);
        slow.minutes(2);
        CHECK.same("20 by 45 is none, but 1 at least", slow.kettle(0, 5), 2);
        slow.put(0, 1);
        slow.minutes(18);
        CHECK.same("400 by 45 is 8", slow.kettle(0, 5), 2 + 144);
        slow.minutes(1);
        CHECK.same("up to 150", slow.kettle(0, 5), 150);
    }

    /** In the third minute: HEAT 120, 114, 108 and 99 by 5 cups and POWER 40, 38, 36 and 33; iron with 1 cup 108, with 2 but 99. */
    private static void minuteNote() {
        CHECK.says("Its NOTE: SPOUT, and a fifth of what SIZE is above FILL, and a tenth of what HEAT is above 100, less a third"
                + " of CHALK (all cut down), less 1, if it is copper; kept to 0 to 60.");
        note("tin 7 39 5 0", 40, 7 + 6 + 2);
        note("tin 7 40 5 0", 40, 7 + 7 + 2);
        note("copper 7 40 5 0", 40, 7 + 7 + 2 - 1);
        note("enamel 7 40 5 0", 40, 7 + 7 + 2);
        note("tin 7 40 5 2", 40, 7 + 7 + 2);
        note("tin 7 40 5 3", 40, 7 + 7 + 2 - 1);
        note("tin 7 40 5 8", 40, 7 + 7 + 2 - 2);
        note("tin 7 40 5 0", 38, 7 + 7 + 1);
        note("tin 7 40 5 0", 36, 7 + 7);
        note("tin 1 6 5 8", 36, 0);
        note("copper 1 6 5 0", 36, 0);
        note("iron 7 20 1 0", 40, 7 + 3);
        note("iron 7 20 2 0", 40, NONE);
        note("tin 5 20 5 9", 40, NONE);
        note("tin 5 5 5 0", 40, NONE);
        note("tin 5 20 0 0", 40, NONE);
        note("tin 5 20 5 0", 33, NONE);
    }

    private static void note(String kettle, int power, int due) {
        KettleChoir choir = CHECK.choir(kettle + ";stove " + power + ";");
        choir.put(0, 0);
        choir.minutes(3);
        CHECK.same("the note of " + kettle + " by power " + power, choir.kettle(0, 8), due);
    }

    /** Notes 4, 7 and 11 in MINUTE 1. */
    private static void minuteDishes() {
        CHECK.says("Then DISHES that aren't READY become so, of which some NOTE that is sung, and those so many STEPS higher, are"
                + " all sung.");
        KettleChoir choir = CHECK.choir("tin 4 4 1 0;tin 7 4 1 0;tin 11 4 1 0;stove 30;stove 30;stove 30;"
                + "dish 3 7;dish 4;dish 3 4;dish 7;dish 1;");
        for (int k = 0; k < 3; k++) {
            choir.put(k, k);
        }
        choir.minutes(2);
        int[] due = {1, 1, NONE, 1, NONE};
        for (int d = 0; d < 5; d++) {
            CHECK.same("when dish " + d + " is ready", choir.dish(d, -2), due[d]);
        }
        choir.minutes(1);
        CHECK.same("they stay so", choir.count(5), 1 + 2 + 8);
        CHECK.same("since", choir.dish(0, -2), 1);
    }

    /** It sings 3 times in the minutes 1 to 3, and goes dry in 3; the other has one cup too many. */
    private static void minuteCups() {
        CHECK.says("Then, if the MINUTE MOD 3 is 0, each that SINGS loses a cup of its FILL (CHALK is 1 more, to 9, if its FILL is"
                + " 0 by that).");
        KettleChoir choir = CHECK.choir("tin 4 4 1 8;tin 4 4 2 8;tin 4 1 1 0;stove 30;stove 40;stove 30;");
        for (int k = 0; k < 3; k++) {
            choir.put(k, k);
        }
        int[][] fills = {{1, 2, 1}, {1, 2, 1}, {1, 2, 1}, {0, 1, 1}, {0, 1, 1}, {0, 1, 1}, {0, 0, 1}, {0, 0, 1}};
        for (int m = 0; m < fills.length; m++) {
            choir.minutes(1);
            for (int k = 0; k < 3; k++) {
                CHECK.same("cups of kettle " + k + " behind minute " + m, choir.kettle(k, 3), fills[m][k]);
                int chalk = k == 2 ? 0 : fills[m][k] == 0 ? 9 : 8;
                CHECK.same("its chalk", choir.kettle(k, 4), chalk);
            }
        }
    }

    /** The cook sees both thirds, though the lower one is lifted off ahead of the higher one. */
    private static void minuteCook() {
        CHECK.says("Then the cook goes from KETTLE to KETTLE: of those on a STOVE each is lifted off, for which LIFTS gives more"
                + " than 0 (HEAT, FILL, CHALK as they are by then, who SINGS and NOTES as above, whoever was lifted off ahead;"
                + " without a rule none).");
        String three = "tin 7 4 1 0;tin 4 4 1 0;tin 9 4 1 0;stove 30;stove 30;stove 30;";
        int[][] due = {{NONE, NONE, NONE}, {NONE, NONE, 2}, {0, NONE, 2}, {0, 1, 2}, {0, 1, 2}};
        String[] rules = {"lifts singers=3;", "lifts note<8 and singers=3;", "lifts third;", "lifts 0-singers;", ""};
        for (int i = 0; i < rules.length; i++) {
            KettleChoir choir = CHECK.choir(three + rules[i]);
            for (int k = 0; k < 3; k++) {
                choir.put(k, k);
            }
            choir.minutes(2);
            for (int k = 0; k < 3; k++) {
                CHECK.same("the stove of kettle " + k + " by " + rules[i], choir.kettle(k, 6), due[i][k]);
            }
        }
    }

    private static void acts() {
        CHECK.says("ACTS (at most 40 are kept, the latest ones): MINUTES go by (1 to 30); a KETTLE is PUT on a STOVE (on which"
                + " there is none; from another one, too), or LIFTED off; one is POURED to another FILL (0 to SIZE; if that is"
                + " more, HEAT becomes HEAT by the old FILL by the new one, cut down); one is SCRAPED, that is on no STOVE:"
                + " CHALK is 0. They are UNDONE, the last one first.");
        KettleChoir choir = CHECK.choir("tin 5 20 5 7;stove 9;stove 10;");
        choir.scrape(0);
        choir.put(0, 0);
        choir.put(0, 1);
        choir.minutes(7);
        CHECK.same("70 by 5 by 6", choir.pour(0, 6), 58);
        CHECK.same("as hot with less", choir.pour(0, 2), 58);
        choir.lift(0);
        CHECK.same("acts", choir.count(9), 7);
        int[][] due = {{0, 2, 58, 1}, {0, 6, 58, 1}, {0, 5, 70, 1}, {0, 5, 0, 1}, {0, 5, 0, 0}, {0, 5, 0, NONE},
            {7, 5, 0, NONE}};
        for (int i = 0; i < due.length; i++) {
            CHECK.same("undo", choir.undo(), 6 - i);
            CHECK.same("chalk", choir.kettle(0, 4), due[i][0]);
            CHECK.same("fill", choir.kettle(0, 3), due[i][1]);
            CHECK.same("heat", choir.kettle(0, 5), due[i][2]);
            CHECK.same("stove", choir.kettle(0, 6), due[i][3]);
        }
    }

    /** One sings from the 10th minute to the 22nd, in which its last cup goes; the other is too full. */
    private static void ahead() {
        CHECK.says("(If only MINUTES go by, from now on, the first one being the next one, 1:) THEN of a KETTLE in so many MINUTES"
                + " (1 to 120): what it SINGS in it. SUNG: in which MINUTE (1 to 120) it sings first; none. DONE: in which a"
                + " DISH is READY (0: it is); none. A FUGUE: in which first so many (1 to 8) or more SING at once; none. QUIET:"
                + " in which first nobody SINGS any more who, or another one, did in the one ahead; none. DRY: the first in"
                + " which a KETTLE's FILL is 0 at the end; none.");
        KettleChoir choir = CHECK.choir("tin 5 20 5 0;tin 5 20 20 0;tin 8 20 5 0;stove 10;stove 40;stove 10;dish 3;dish 5;");
        for (int k = 0; k < 3; k++) {
            choir.put(k, k);
        }
        // Behind 0 minutes, 10 and 22: what is so many minutes from then on is so many minutes less.
        int[][] due = {{NONE, 10, 10, NONE, 10, NONE, 23, 22}, {9, 1, 0, NONE, 1, NONE, 13, 12},
            {NONE, NONE, 0, NONE, NONE, NONE, 1, 0}};
        int[] go = {10, 12, 0};
        for (int i = 0; i < due.length; i++) {
            int[] is = {choir.then(0, 1), choir.sung(0), choir.done(0), choir.done(1), choir.fugue(2), choir.fugue(3),
                choir.quiet(), choir.dry(0)};
            for (int j = 0; j < is.length; j++) {
                CHECK.same("answer " + j + " of turn " + i, is[j], due[i][j]);
            }
            CHECK.same("the full one", choir.sung(1) + choir.dry(1) + choir.then(1, 20), 3 * NONE);
            if (go[i] > 0) {
                choir.minutes(go[i]);
            }
        }
    }

    /** By POWER 40 and 5 cups they sing in the 3rd minute; the first one is on a stove that is cleared. */
    private static void soonest() {
        CHECK.says("SOONEST for a DISH that isn't READY: all STOVES are cleared, and on each comes a KETTLE, or none: of all such"
                + " rows that by which it is READY soonest (up to MINUTE 60; the cook does as ever): when; the first such row"
                + " (STOVE by STOVE, none ahead of KETTLES); none.");
        KettleChoir choir = CHECK.choir("tin 1 20 5 0;tin 8 20 5 0;tin 5 20 5 0;stove 5;stove 40;stove 40;dish 3;dish 20;");
        choir.put(0, 1);
        int[] due = {3, NONE, 1, 2};
        for (int i = NONE; i < 3; i++) {
            CHECK.same("soonest(0, " + i + ")", choir.soonest(0, i), due[i + 1]);
            CHECK.same("soonest(1, " + i + ")", choir.soonest(1, i), NONE);
        }
        CHECK.same("it is still on", choir.stove(1, 1), 0);
    }

    private static void tunedAndChord() {
        CHECK.says("TUNED to a NOTE (0 to 60): the FILL (0 to 9 tenths of SIZE, 1 at least) of a KETTLE nearest to what it is (of"
                + " like ones the lesser) by which its NOTE at HEAT 100 would be that; none. THE CHORD of a DISH: the least"
                + " cups, all together, by which FILLS of some KETTLES (by TUNED, each for one NOTE) must be otherwise so that,"
                + " all at HEAT 100, they sing a NOTE and those so many STEPS higher; none (CHALK 9 never sings).");
        // SIZE 20: 5 and more from 16 to 18 cups, 6 from 11, 7 from 6, 8 from 1.
        KettleChoir choir = CHECK.choir("tin 5 20 13 0;tin 7 20 13 0;tin 9 20 13 9;dish 2;dish 4;dish 1;dish 7;");
        int[] fills = {NONE, 16, 13, 10, 5, NONE};
        for (int note = 4; note <= 9; note++) {
            CHECK.same("tuned(0, " + note + ")", choir.tuned(0, note), fills[note - 4]);
            CHECK.same("tuned(2, " + (note + 4) + ")", choir.tuned(2, note + 4), NONE);
        }
        CHECK.same("6 and 8 as they are", choir.chord(0), 0);
        CHECK.same("5 and 9: 3 cups more, 3 less; 6 and 10 would be 8", choir.chord(1), 6);
        CHECK.same("7 and 8: 3 cups less", choir.chord(2), 3);
        CHECK.same("the third one never sings", choir.chord(3), NONE);
    }

    private static void burnerAndTogether() {
        CHECK.says("A BURNER for a KETTLE: of all POWERS (1 to 40) the least by which, on a STOVE of that (no cook), it SINGS"
                + " within so many MINUTES (1 to 120), from its HEAT now; none. TOGETHER: two KETTLES, both put now on STOVES of"
                + " POWER so much (no cook): in how many of the next 60 MINUTES both SING so many STEPS apart (0 to 24).");
        KettleChoir choir = CHECK.choir("tin 5 20 5 0;tin 8 20 5 0;stove 7;lifts 1;");
        CHECK.same("burner(0, 10): 10 each", choir.burner(0, 10), 10);
        CHECK.same("burner(0, 9): 12 each", choir.burner(0, 9), 12);
        CHECK.same("burner(0, 3): 34 each", choir.burner(0, 3), 34);
        CHECK.same("burner(0, 2): 50 each", choir.burner(0, 2), NONE);
        CHECK.same("together(0, 1, 10, 3): in the minutes 9 to 21", choir.together(0, 1, 10, 3), 13);
        CHECK.same("together(0, 1, 10, 2)", choir.together(0, 1, 10, 2), 0);
        choir.put(0, 0);
        choir.minutes(1);
        CHECK.same("heat", choir.kettle(0, 5), 7);
        CHECK.same("burner(0, 3) from 7 on: 31 each", choir.burner(0, 3), 31);
        CHECK.same("they stay as they are", choir.kettle(0, 5) + choir.kettle(1, 5), 7);
    }

    /** It sings 8 in the 10th minute with chalk 0 to 2, 7 with 3 to 5, 6 with 6 to 8, nothing with 9. */
    private static void heardAndChalk() {
        CHECK.says("HEARD (at most 8): that in so many MINUTES (1 to 60) from now on some KETTLE SINGS a NOTE (0 to 60), or none"
                + " does. THE CHALK: KETTLES and CHALK (0 to 9, another than it has) by one of which all that is HEARD would be"
                + " so: how many; the first (10 by the KETTLE and CHALK); whether it is so without (1). LISTEN: the MINUTE (1 to"
                + " 60) in which these would sound most unlike (of like ones the first): how many unlike choirs (which NOTES are"
                + " sung at all); none without any.");
        int[][] due = {{8, 2, 10, 1, 1, 1}, {7, 3, 13, 0, 1, 1}, {6, 3, 16, 0, 1, 1}, {NONE, 1, 19, 0, 1, 1},
            {9, 0, NONE, 0, NONE, 0}};
        for (int[] d : due) {
            KettleChoir choir = CHECK.choir("tin 5 20 0 0;tin 5 20 5 1;stove 10;");
            choir.put(1, 0);
            CHECK.same("without anything heard", choir.chalk(0), 9 + 9);
            CHECK.same("when to listen", choir.listen(0), 10);
            CHECK.same("choirs", choir.listen(1), 4);
            choir.hear(10, d[0]);
            choir.hear(1, NONE);
            // The empty kettle's chalk, 9 times, counts where it is so without.
            CHECK.same("how many with " + d[0], choir.chalk(0), d[3] == 1 ? d[1] + 9 : d[1]);
            CHECK.same("the first with " + d[0], choir.chalk(1), d[3] == 1 ? 1 : d[2]);
            CHECK.same("without with " + d[0], choir.chalk(2), d[3]);
            CHECK.same("when to listen with " + d[0], choir.listen(0), d[4]);
            CHECK.same("choirs with " + d[0], choir.listen(1), d[5]);
        }
    }

    /** Notes 5, 6 and 9 in MINUTE 1; the fourth one is as hot, but too full. */
    private static void lidsAndGame() {
        CHECK.says("LIDS: KETTLES whose HEAT is 95 or more, as bits (the deaf one goes by them); TAKEN for one that SINGS are those"
                + " of them that don't. A GAME of two cooks, who each keep one of two KETTLES that SING now, or lift it off (1,"
                + " 0): one gains 6 by keeping, if no other KETTLE SINGS 1 or 2 from it (above or below; of those that are"
                + " kept), else loses 4; by lifting nothing. A couple RESTS, if neither gains more by the other choice: how"
                + " many; the first (10 by the first one's, and the other one's); none, if one of both doesn't SING.");
        KettleChoir choir = CHECK.choir("tin 5 4 1 0;tin 6 4 1 0;tin 9 4 1 0;tin 9 1 1 0;stove 30;stove 30;stove 30;stove 30;");
        for (int k = 0; k < 4; k++) {
            choir.put(k, k);
        }
        choir.minutes(2);
        CHECK.same("lids", choir.count(6), 15);
        CHECK.same("taken", choir.count(7), 8);
        int[][] due = {{0, 1, 2, 1}, {1, 0, 2, 1}, {0, 2, 1, 1}, {2, 0, 1, 10}, {0, 3, 0, NONE}, {3, 2, 0, NONE}};
        for (int[] d : due) {
            CHECK.same("game(" + d[0] + ", " + d[1] + ", 0)", choir.game(d[0], d[1], 0), d[2]);
            CHECK.same("game(" + d[0] + ", " + d[1] + ", 1)", choir.game(d[0], d[1], 1), d[3]);
        }
        CHECK.same("nobody is lifted off", choir.kettle(0, 6) + choir.kettle(1, 6) + choir.kettle(2, 6), 3);
    }

    /** By each of the four deeds of the second draw, one that is on the second stove, or on none, but as hot. */
    private static void evening() {
        CHECK.says("EVENINGS by a seed: n MINUTES (0 to 90) from now on: ahead of each a DRAW of KETTLES, then a DRAW of 4: 0 it is"
                + " lifted off (if it is on one), 1 it comes on the first STOVE on which there is none (if it is on none, and"
                + " there is one), else nothing: how many DISHES are READY at the end; in how many of these MINUTES somebody"
                + " SINGS; the highest NOTE of all (0 without).");
        for (int seed = 0; seed < 40; seed++) {
            int deed = deed(seed);
            for (boolean on : new boolean[] {false, true}) {
                KettleChoir choir = CHECK.choir("tin 5 4 1 0;stove 30;stove 30;");
                choir.put(0, 1);
                choir.minutes(1);
                if (!on) {
                    choir.lift(0);
                }
                // HEAT 50 and 50 by a stove: it sings in this one minute, if it is on one then.
                boolean sings = on ? deed != 0 : deed == 1;
                CHECK.same("minutes by deed " + deed, choir.evening(seed, 1, 1), sings ? 1 : 0);
                CHECK.same("the highest note by deed " + deed, choir.evening(seed, 1, 2), sings ? 5 : 0);
                CHECK.same("dishes", choir.evening(seed, 1, 0), 0);
                CHECK.same("none in no minutes", choir.evening(seed, 0, 1) + choir.evening(seed, 0, 2), 0);
            }
        }
    }

    private static int deed(int seed) {
        long state = seed;
        for (int draws = 0; draws < 2; draws++) {
            state = (state * 1103515245L + 12345L) & 0xffffffffL;
        }
        return (int) ((state >> 16 & 32767) % 4);
    }

    /** By the first draw one of three is chosen, by the second one it is lifted off or not: who is left, sings. */
    private static void eveningSeed() {
        CHECK.says("A seed becomes itself times 1103515245 and 12345 (an int that wraps); a DRAW of n is its bits 16 to 30 MOD n"
                + " then. (Without KETTLES nothing is drawn.)");
        for (int seed : new int[] {0, 1, 2, 3, 77, -5, Integer.MAX_VALUE, Integer.MIN_VALUE, 1103515245}) {
            int first = seed * 1103515245 + 12345;
            int second = first * 1103515245 + 12345;
            int kettle = (first >>> 16 & 0x7fff) % 3;
            int deed = (second >>> 16 & 0x7fff) % 4;
            // Each of the three is hot on a stove, and sings a note of its own; who is lifted off, doesn't.
            KettleChoir choir = CHECK.choir("tin 5 4 1 0;tin 9 4 1 0;tin 14 4 1 0;stove 30;stove 30;stove 30;dish 4;dish 5;"
                    + "dish 9;");
            for (int k = 0; k < 3; k++) {
                choir.put(k, k);
            }
            choir.minutes(1);
            int[] without = {0b010, 0b100, 0b001};
            int due = deed == 0 ? Integer.bitCount(without[kettle]) : 3;
            CHECK.same("dishes of seed " + seed, choir.evening(seed, 1, 0), due);
            int highest = deed == 0 && kettle == 2 ? 9 : 14;
            CHECK.same("the highest note of seed " + seed, choir.evening(seed, 1, 2), highest);
        }
        KettleChoir nobody = CHECK.choir("stove 5;dish 5;");
        CHECK.same("without kettles", nobody.evening(9, 90, 0) + nobody.evening(9, 90, 1) + nobody.evening(9, 90, 2), 0);
    }
}
