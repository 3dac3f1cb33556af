import java.util.Arrays;

/** The document's bounds of a text, of the tape and of FAULTS (==== 1, promises 1 to 4), each at it, below and above. */
public final class TextEdgeTest {
    private static final Check CHECK = new Check("TextEdgeTest");
    private static final int NONE = Check.NONE;
    private static final String[] KINDS = {"tin", "copper", "iron", "enamel"};

    interface Told {
        int of(KettleChoir choir);
    }

    public static void main(String[] args) {
        newObject();
        tapeOf600();
        refusedFeed();
        textOf600();
        bytesOfANumber();
        kitchenOfSoMany();
        tapeIsEmptyThen();
        allAnew();
        faultLeavesAll();
        placeOfTheLatest();
        numbersOfKettles();
        numbersOfStovesAndDishes();
        digits();
        kettlesAtMost8();
        stovesAtMost4();
        dishesAtMost5();
        steps1To3();
        stepTwice();
        secondLifts();
        bytesBetweenTokens();
        bytesInAnExpr();
        bytesAheadOfALine();
        longestRow();
        eachLetter();
        endsTooSoon();
        firstAlongTheText();
        leastOfOneToken();
        withinSixOthers();
        seventhNot();
        wordsWhereAPartMustStand();
        oneTestAtMost();
        CHECK.end();
    }

    private static void fault(String text, int due, int place) {
        KettleChoir choir = new KettleChoir();
        CHECK.same("the fault of '" + text + "'", Check.read(choir, text), due);
        CHECK.same("its place in '" + text + "'", choir.fault(), place);
        CHECK.same("status 0 of '" + text + "'", choir.count(12), due == 0 ? 0 : 1);
    }

    private static void fits(String text) {
        fault(text, 0, NONE);
    }

    private static void newObject() {
        CHECK.says("KettleChoir(): No KETTLES.");
        KettleChoir choir = new KettleChoir();
        CHECK.same("kettles", choir.count(0), 0);
        for (int wrong : new int[] {NONE, 0, 1, 7, 8}) {
            CHECK.missing("kettle " + wrong, () -> choir.kettle(wrong, 0));
            CHECK.missing("sung " + wrong, () -> choir.sung(wrong));
            CHECK.missing("lift " + wrong, () -> choir.lift(wrong));
            CHECK.missing("pour " + wrong, () -> choir.pour(wrong, 0));
            CHECK.missing("scrape " + wrong, () -> choir.scrape(wrong));
            CHECK.missing("stove " + wrong, () -> choir.stove(wrong, 0));
            CHECK.missing("dish " + wrong, () -> choir.dish(wrong, NONE));
            CHECK.missing("done " + wrong, () -> choir.done(wrong));
            CHECK.missing("put " + wrong, () -> choir.put(wrong, 0));
            CHECK.missing("game " + wrong, () -> choir.game(wrong, 0, 0));
        }
        CHECK.same("refused acts", choir.count(13), 0);
        CHECK.same("the tape", choir.count(11), 0);
        CHECK.same("an image", choir.restore(), false);
        CHECK.same("fault()", choir.fault(), NONE);
    }

    private static KettleChoir fed(int times) {
        KettleChoir choir = new KettleChoir();
        for (int i = 0; i < times; i++) {
            choir.feed(0x73746f76, 0x65203132, 0x3b202020, 0x20202020, 0x20202020);
        }
        return choir;
    }

    private static void tapeOf600() {
        CHECK.says("how many it has; NONE, and none come, if it would have more than 600");
        CHECK.same("the first feed", fed(0).feed(0, 0, 0, 0, 0), 20);
        CHECK.same("feed to 580", fed(28).feed(0, 0, 0, 0, 0), 580);
        CHECK.same("feed to 600", fed(29).feed(0, 0, 0, 0, 0), 600);
        CHECK.same("feed to 620", fed(30).feed(0, 0, 0, 0, 0), NONE);
        KettleChoir full = fed(30);
        full.feed(0, 0, 0, 0, 0);
        CHECK.same("the tape behind that", full.count(11), 600);
        CHECK.same("refused again", full.feed(0, 0, 0, 0, 0), NONE);
        CHECK.same("the first fault on it", full.kitchen(600), 2);
        CHECK.same("the fifth stove's place", full.fault(), 80);
        CHECK.same("feed behind that", full.feed(0, 0, 0, 0, 0), 20);
    }

    private static void refusedFeed() {
        CHECK.says("NONE, and none come");
        Twins twins = new Twins(CHECK, () -> {
            KettleChoir choir = Twins.busyWithoutTape();
            Check.tape(choir, "tin 24 40 40 9;" + " ".repeat(576) + "stove 40;");
            return choir;
        });
        twins.unchanged("feed above 600", choir -> choir.feed(1, 2, 3, 4, 5));
    }

    private static void textOf600() {
        CHECK.says("A TEXT of at most 600 bytes tells it.");
        String text = "stove 7;" + " ".repeat(583) + "stove 40;";
        CHECK.same("its length", text.length(), 600);
        KettleChoir choir = CHECK.choir(text);
        CHECK.same("the stove of its last bytes", choir.stove(1, 0), 40);
        KettleChoir cut = new KettleChoir();
        Check.tape(cut, text);
        CHECK.same("599 bytes of it", cut.kitchen(599), 1);
        CHECK.same("which end too soon at 599", cut.fault(), 599);
        fault("stove 7;" + " ".repeat(591) + "x", 1, 599);
        fault("stove 7;" + " ".repeat(587) + "stove", 1, 600);
        fault("stove " + "0".repeat(594), 2, 6);
        fault("x".repeat(600), 1, 0);
        fits(" ".repeat(600));
    }

    private static void bytesOfANumber() {
        CHECK.says("of each number the highest first");
        for (int at = 0; at < 20; at++) {
            // Blanks but for one byte, which is none: the fault's place tells where it came.
            int[] four = new int[5];
            for (int i = 0; i < 20; i++) {
                four[i / 4] = four[i / 4] << 8 | (i == at ? 255 : ' ');
            }
            KettleChoir choir = new KettleChoir();
            choir.feed(four[0], four[1], four[2], four[3], four[4]);
            CHECK.same("a byte 255", choir.kitchen(20), 1);
            CHECK.same("its place", choir.fault(), at);
        }
    }

    private static void kitchenOfSoMany() {
        CHECK.says("IllegalArgumentException: the tape has not so many, n below 0 (nothing changes).");
        for (int has : new int[] {0, 20, 580, 600}) {
            for (int n : new int[] {-1, has + 1, Integer.MIN_VALUE, Integer.MAX_VALUE, 601}) {
                KettleChoir choir = fed(has / 20);
                CHECK.illegal("kitchen(" + n + ") of " + has, () -> choir.kitchen(n));
                CHECK.same("the tape then", choir.count(11), has);
                CHECK.same("status then", choir.count(12), 0);
                CHECK.same("fault() then", choir.fault(), NONE);
            }
            CHECK.same("kitchen(0) of " + has, fed(has / 20).kitchen(0), 0);
        }
        CHECK.same("kitchen(20) of 20", fed(1).kitchen(20), 0);
        CHECK.same("kitchen(19) of 20", fed(1).kitchen(19), 0);
        Twins twins = new Twins(CHECK, Twins::busy);
        twins.unchanged("kitchen(-1)", choir -> CHECK.illegal("kitchen(-1)", () -> choir.kitchen(-1)));
        twins.unchanged("kitchen(21) of 20", choir -> CHECK.illegal("kitchen(21)", () -> choir.kitchen(21)));
    }

    private static void tapeIsEmptyThen() {
        CHECK.says("The tape's first n bytes (it is empty then)");
        for (int n : new int[] {0, 9, 20, 21, 40}) {
            KettleChoir choir = fed(2);
            CHECK.same("kitchen(" + n + ")", choir.kitchen(n), n == 21 ? 1 : 0);
            CHECK.same("the tape behind kitchen(" + n + ")", choir.count(11), 0);
            CHECK.same("feed behind kitchen(" + n + ")", choir.feed(0, 0, 0, 0, 0), 20);
        }
        KettleChoir choir = fed(2);
        CHECK.same("the first 8 bytes end too soon", choir.kitchen(8), 1);
        CHECK.same("at 8, though the tape has more", choir.fault(), 8);
    }

    private static void allAnew() {
        CHECK.says("are a KITCHEN, all anew: 0 .. ACTS, what is HEARD, the image are gone.");
        for (String text : new String[] {"", "tin 5 20 5 3;stove 10;dish 6;"}) {
            KettleChoir choir = Twins.busyWithoutTape();
            for (int i = 0; i < 50; i++) {
                choir.pour(2, 1 + i % 2);
                choir.hear(1, 1);
            }
            CHECK.same("acts ahead of it", choir.count(9), 40);
            CHECK.same("heard ahead of it", choir.count(10), 8);
            int[] status = {choir.count(12), choir.count(13), choir.count(14)};
            CHECK.same("a kitchen", Check.read(choir, text), 0);
            for (int what = 3; what <= 11; what++) {
                CHECK.same("count(" + what + ")", choir.count(what), 0);
            }
            CHECK.same("kettles", choir.count(0), text.isEmpty() ? 0 : 1);
            CHECK.same("stoves", choir.count(1), text.isEmpty() ? 0 : 1);
            CHECK.same("dishes", choir.count(2), text.isEmpty() ? 0 : 1);
            for (int i = 0; i < 3; i++) {
                CHECK.same("status " + i + " stays", choir.count(12 + i), status[i]);
            }
            CHECK.same("an act to undo", choir.undo(), NONE);
            CHECK.same("an image", choir.restore(), false);
        }
        CHECK.says("At first no KETTLE is on a STOVE, all have HEAT 0, no DISH is READY, the MINUTE is 0.");
        KettleChoir choir = Twins.busyWithoutTape();
        Check.read(choir, "tin 5 20 5 3;copper 8 20 5 0;iron 7 30 6 9;stove 10;dish 6;");
        for (int k = 0; k < 3; k++) {
            CHECK.same("the stove of " + k, choir.kettle(k, 6), NONE);
            CHECK.same("the heat of " + k, choir.kettle(k, 5), 0);
            CHECK.same("minutes sung by " + k, choir.kettle(k, 7), 0);
            CHECK.same("the note of " + k, choir.kettle(k, 8), NONE);
        }
        CHECK.same("the kettle on the stove", choir.stove(0, 1), NONE);
        CHECK.same("the dish", choir.dish(0, -2), NONE);
    }

    private static void faultLeavesAll() {
        CHECK.says("or the FAULT (all stays, but STATUS)");
        String[] texts = {"tin 9 9 9 9;stove", "stove 4;stove 41;", "stove 4;lifts nothing;", "dish 3 3;", "lifts 1;lifts 0;"};
        Twins twins = new Twins(CHECK, Twins::busyWithoutTape);
        for (int i = 0; i < texts.length; i++) {
            String text = texts[i];
            int due = i + 1;
            twins.refused(text, 0, choir -> CHECK.same("the fault of " + text, Check.read(choir, text), due));
        }
    }

    private static void placeOfTheLatest() {
        CHECK.says("The place of the latest kitchen()'s FAULT; NONE without.");
        KettleChoir choir = new KettleChoir();
        CHECK.same("without a kitchen()", choir.fault(), NONE);
        Check.read(choir, "x");
        CHECK.same("at the first byte", choir.fault(), 0);
        Check.read(choir, " x");
        CHECK.same("the latest", choir.fault(), 1);
        CHECK.illegal("kitchen(1)", () -> choir.kitchen(1));
        CHECK.same("a call that threw leaves it", choir.fault(), 1);
        choir.image();
        Check.read(choir, "  x");
        choir.restore();
        CHECK.same("the image doesn't keep it", choir.fault(), 2);
        choir.kitchen(0);
        CHECK.same("none by the latest", choir.fault(), NONE);
    }

    /** A NUMBER between two texts: one below its bounds, at them, and one above. */
    private static void number(String ahead, String behind, int low, int high, Told told) {
        for (int value : new int[] {low - 1, low, low + 1, high - 1, high, high + 1}) {
            if (value >= 0) {
                KettleChoir choir = new KettleChoir();
                String text = ahead + value + behind;
                boolean fits = value >= low && value <= high;
                CHECK.same("the fault of " + text, Check.read(choir, text), fits ? 0 : 2);
                CHECK.same("its place in " + text, choir.fault(), fits ? NONE : ahead.length());
                if (fits) {
                    CHECK.same("as told: " + text, told.of(choir), value);
                }
            }
        }
    }

    private static void numbersOfKettles() {
        CHECK.says("a KIND .., SPOUT (1 to 24), SIZE (1 to 40 cups), FILL (0 to SIZE), CHALK (0 to 9)");
        for (int kind = 0; kind < 4; kind++) {
            String name = KINDS[kind] + " ";
            CHECK.same(name, CHECK.choir(name + "5 9 0 0;").kettle(0, 0), kind);
            number(name, " 9 0 0;", 1, 24, choir -> choir.kettle(0, 1));
            number(name + "5 ", " 0 0;", 1, 40, choir -> choir.kettle(0, 2));
            for (int size = 1; size <= 40; size++) {
                number(name + "5 " + size + " ", " 0;", 0, size, choir -> choir.kettle(0, 3));
            }
            number(name + "5 9 0 ", ";", 0, 9, choir -> choir.kettle(0, 4));
        }
    }

    private static void numbersOfStovesAndDishes() {
        CHECK.says("POWER (1 to 40)");
        number("stove ", ";", 1, 40, choir -> choir.stove(0, 0));
        CHECK.says("STEPS (1 to 24 each)");
        number("dish ", ";", 1, 24, choir -> choir.dish(0, 0));
        number("dish 7 ", ";", 1, 24, choir -> choir.dish(0, 1));
        number("dish 7 9 ", ";", 1, 24, choir -> choir.dish(0, 2));
        number("dish ", " 7 9;", 1, 24, choir -> choir.dish(0, 0));
        CHECK.says("(not in an EXPR) not as told");
        for (String number : new String[] {"0", "1", "41", "9998", "9999"}) {
            fits("lifts " + number + ";");
        }
    }

    private static void digits() {
        CHECK.says("NUMBERS (1 to 4 digits) .. 2 .. a NUMBER of 5 digits or more");
        String[] ahead = {"tin ", "tin 7 ", "tin 7 7 ", "tin 7 7 7 ", "stove ", "dish ", "dish 8 ", "lifts ", "lifts 8+("};
        String[] behind = {" 9 7 0;", " 7 0;", " 0;", ";", ";", ";", ";", ";", ");"};
        for (int i = 0; i < ahead.length; i++) {
            for (int zeros = 0; zeros < 25; zeros++) {
                boolean fits = zeros < 4;
                fault(ahead[i] + "0".repeat(zeros) + "7" + behind[i], fits ? 0 : 2, fits ? NONE : ahead[i].length());
            }
            // 2 to the 32nd and 7, which an int would take for 7
            fault(ahead[i] + "4294967303" + behind[i], 2, ahead[i].length());
            fault(ahead[i] + "10000" + behind[i], 2, ahead[i].length());
            fault(ahead[i] + "99999" + behind[i], 2, ahead[i].length());
        }
    }

    private static void kettlesAtMost8() {
        CHECK.says("KETTLES 0, 1 .. (at most 8) .. the first TOKEN of the 9th KETTLE");
        String kettle = "tin 1 1 0 0;";
        fits(kettle.repeat(7));
        CHECK.same("kettles", CHECK.choir(kettle.repeat(8)).count(0), 8);
        for (String kind : KINDS) {
            fits(kettle.repeat(7) + kind + " 1 1 0 0;");
            fault(kettle.repeat(8) + "\n" + kind + " 1 1 0 0;", 2, 97);
            fault(kettle.repeat(8) + kind, 2, 96);
            fault(kettle.repeat(8) + "stove 3;" + kind + " 0 0;", 2, 104);
        }
        fits(kettle.repeat(8) + "stove 1;dish 1;lifts 1;");
    }

    private static void stovesAtMost4() {
        CHECK.says("STOVES 0, 1 .. (at most 4) .. the 5th STOVE");
        fits("stove 1;".repeat(3));
        CHECK.same("stoves", CHECK.choir("stove 1;".repeat(4)).count(1), 4);
        fault("stove 1;".repeat(5), 2, 32);
        fault("stove 1;".repeat(4) + " stove", 2, 33);
        fault("stove 1;".repeat(4) + "tin 1 1 0 0;stove 1;", 2, 44);
        fits("stove 1;".repeat(4) + "tin 1 1 0 0;dish 1;lifts 1;");
    }

    private static void dishesAtMost5() {
        CHECK.says("DISHES 0, 1 .. (at most 5) .. the 6th DISH");
        fits("dish 1;".repeat(4));
        CHECK.same("dishes", CHECK.choir("dish 1;".repeat(5)).count(2), 5);
        fault("dish 1;".repeat(6), 2, 35);
        fault("dish 1;".repeat(5) + "\n\ndish", 2, 37);
        fault("dish 1;".repeat(5) + "stove 1;dish 0;", 2, 43);
        fits("dish 1;".repeat(5) + "tin 1 1 0 0;stove 1;lifts 1;");
    }

    private static void steps1To3() {
        CHECK.says("1 to 3 STEPS .. the 4th STEP");
        fault("dish;", 1, 4);
        for (int many = 1; many <= 3; many++) {
            KettleChoir choir = CHECK.choir("dish" + " 24 1 2".substring(0, many == 1 ? 3 : 2 * many + 1) + ";");
            CHECK.same("steps", choir.dish(0, NONE), many);
            int above = many;
            CHECK.missing("the step behind the last", () -> choir.dish(0, above));
        }
        fault("dish 24 1 2 3;", 2, 12);
        fault("dish 24 1 2 3 4;", 2, 12);
        fault("dish 24 1 2\n3", 2, 12);
        fault("dish 1 2 3;dish 4 5 6;dish 7 8 9 10;", 2, 33);
    }

    private static void stepTwice() {
        CHECK.says("4 a STEP that the DISH has already");
        fault("dish 3 3;", 4, 7);
        fault("dish 3 4 3;", 4, 9);
        fault("dish 3 4 4;", 4, 9);
        fault("dish 3 0003;", 4, 7);
        fault("dish 1 1;", 4, 7);
        fault("dish 24 24;", 4, 8);
        fits("dish 3 4 5;dish 3 4 5;dish 5;");
        fits("dish 2 1 3;");
    }

    private static void secondLifts() {
        CHECK.says("5 a second 'lifts'");
        fits("lifts 1;");
        fits("lifts 1;stove 2;");
        fault("lifts 1;lifts 1;", 5, 8);
        fault("lifts 1;lifts", 5, 8);
        fault("lifts 1;lifts ((((((((", 5, 8);
        fault("lifts 0;tin 1 1 0 0;\nlifts 1;", 5, 21);
        KettleChoir choir = CHECK.choir("lifts 1;");
        CHECK.same("a kitchen's own", Check.read(choir, "lifts 1;"), 0);
        Check.read(choir, "lifts 1;x");
        CHECK.same("behind one with a fault", Check.read(choir, "lifts 1;"), 0);
    }

    private static boolean isLetter(int b) {
        return b >= 'a' && b <= 'z';
    }

    private static boolean isDigit(int b) {
        return b >= '0' && b <= '9';
    }

    private static boolean isBlank(int b) {
        return b == 32 || b == 10;
    }

    private static void bytesBetweenTokens() {
        CHECK.says("words (a .. z, the longest row), NUMBERS .., signs ; ( ) + - * / < = ; blanks (32, 10)");
        for (int b = 0; b < 256; b++) {
            String text = "stove" + (char) b + "5;";
            if (isBlank(b) || b >= '0' && b <= '3') {
                fits(text);
            } else if (isDigit(b)) {
                fault(text, 2, 5);
            } else {
                fault(text, 1, isLetter(b) ? 0 : 5);
            }
        }
    }

    private static void bytesInAnExpr() {
        CHECK.says("signs ; ( ) + - * / < = ; blanks (32, 10) between them count for nothing");
        for (int b = 0; b < 256; b++) {
            String text = "lifts 7" + (char) b + "8;";
            if (isDigit(b) || "+-*/<=".indexOf(b) >= 0) {
                fits(text);
            } else {
                fault(text, 1, isBlank(b) || b == ';' ? 8 : 7);
            }
            String part = "lifts " + (char) b + "8;";
            if (isDigit(b) || isBlank(b)) {
                fits(part);
            } else if (b == '(') {
                fault(part, 1, 8);
            } else {
                fault(part, isLetter(b) ? 3 : 1, 6);
            }
        }
    }

    private static void bytesAheadOfALine() {
        CHECK.says("1 a TOKEN that can't stand there, or is none");
        for (int b = 0; b < 256; b++) {
            String text = (char) b + "stove 5;";
            if (isBlank(b)) {
                fits(text);
            } else {
                fault(text, 1, 0);
            }
            String behind = "stove 5;" + (char) b;
            if (isBlank(b)) {
                fits(behind);
            } else {
                fault(behind, 1, 8);
            }
        }
    }

    private static void longestRow() {
        CHECK.says("words (a .. z, the longest row)");
        for (String word : new String[] {"tin", "copper", "iron", "enamel", "stove", "dish", "lifts"}) {
            fault(word + "s 5;", 1, 0);
            fault("a" + word + " 5;", 1, 0);
            fault(word.substring(0, word.length() - 1) + " 5;", 1, 0);
            fault(word.substring(1) + " 5;", 1, 0);
            fault(word.substring(0, 2) + " " + word.substring(2) + " 5;", 1, 0);
        }
        fits("tin5 20 5 0;copper5 20 5 0;stove7;dish3 4;lifts5and heat;");
        fault("tin5 20 5 0;tinstove7;", 1, 12);
        for (String value : new String[] {"note", "sung", "third", "heat", "fill", "chalk", "singers"}) {
            fits("lifts " + value + ";");
            fault("lifts " + value + "s;", 3, 6);
            fault("lifts a" + value + ";", 3, 6);
            fault("lifts " + value.substring(0, value.length() - 2) + ";", 3, 6);
            fault("lifts " + value.substring(1) + ";", 3, 6);
            fault("lifts " + value.substring(0, 2) + " " + value.substring(2) + ";", 3, 6);
        }
    }

    /** A word with one letter otherwise is another word. */
    private static void eachLetter() {
        CHECK.says("LINE: (('tin' | 'copper' | 'iron' | 'enamel') .. | 'stove' .. | 'dish' .. | 'lifts' EXPR) .. VALUES");
        String[] words = {"tin", "copper", "iron", "enamel", "stove", "dish", "lifts", "not", "and", "or", "note", "sung",
            "third", "heat", "fill", "chalk", "singers"};
        for (int w = 0; w < words.length; w++) {
            String ahead = w < 7 ? "" : w == 8 || w == 9 ? "lifts 1 " : "lifts ";
            String behind = w < 4 ? " 5 20 5 0;" : w < 10 ? " 5;" : ";";
            fits(ahead + words[w] + behind);
            for (int at = 0; at < words[w].length(); at++) {
                for (char c = 'a'; c <= 'z'; c++) {
                    if (c != words[w].charAt(at)) {
                        String other = words[w].substring(0, at) + c + words[w].substring(at + 1);
                        fault(ahead + other + behind, w == 7 || w >= 10 ? 3 : 1, ahead.length());
                    }
                }
            }
        }
    }

    private static void endsTooSoon() {
        CHECK.says("(the text's length where it ends too soon)");
        String[] tokens = {"tin", "5", "20", "5", "0", ";", "stove", "10", ";", "dish", "3", "4", ";", "lifts", "not",
            "note", "<", "(", "5", "+", "2", "*", "sung", ")", "and", "heat", "or", "fill", ";"};
        for (int many = 0; many <= tokens.length; many++) {
            String text = String.join(" ", Arrays.copyOf(tokens, many));
            boolean fits = many == 0 || tokens[many - 1].equals(";");
            for (String blanks : new String[] {"", " ", "\n", "   \n"}) {
                fault(text + blanks, fits ? 0 : 1, fits ? NONE : (text + blanks).length());
                // What stands on the tape behind the text is none of it.
                KettleChoir choir = new KettleChoir();
                Check.tape(choir, text + blanks + "\n?".repeat(10));
                CHECK.same("the fault of '" + text + "' on a longer tape", choir.kitchen((text + blanks).length()),
                        fits ? 0 : 1);
                CHECK.same("its place", choir.fault(), fits ? NONE : (text + blanks).length());
            }
        }
    }

    private static void firstAlongTheText() {
        CHECK.says("FAULTS, the first along the text, at a TOKEN's first byte");
        // A text with each fault, and how far into it.
        String[] texts = {"stove stove", "stove 41", "lifts 1+nothing", "dish 3 3", "lifts 1;lifts"};
        int[] places = {6, 6, 8, 7, 8};
        for (int i = 0; i < texts.length; i++) {
            for (String other : texts) {
                fault(texts[i] + " " + other, i + 1, places[i]);
                fault("stove 5;\n" + texts[i] + ";" + other, i + 1, 9 + places[i]);
            }
        }
        fault("tin 25 41 42 10;", 2, 4);
        fault("tin 24 41 42 10;", 2, 7);
        fault("tin 24 40 42 10;", 2, 10);
        fault("tin 24 40 40 10;", 2, 13);
    }

    private static void leastOfOneToken() {
        CHECK.says("of one TOKEN the least");
        fault("12345;", 1, 0);
        fault("stove 5 12345;", 1, 8);
        fault("tin 5 5 5 5 12345;", 1, 12);
        fault("lifts 5 12345;", 1, 8);
        fault("lifts 5 nothing;", 1, 8);
        fault("lifts 5 lifts 6;", 1, 8);
        fault("stove lifts 6;", 1, 6);
        fault("lifts 5;stove lifts", 1, 14);
        fault("lifts lifts;", 3, 6);
        fault("lifts 5;lifts lifts;", 5, 8);
        fault("lifts ((((((nothing", 2, 12);
        fault("lifts ((((((lifts", 2, 12);
        fault("dish 3 4 5 3;", 2, 11);
        fault("dish 3 4 5 5;", 2, 11);
        fault("dish 3 00003;", 2, 7);
        fault("dish 3 4 5 99999;", 2, 11);
        fault("dish 3 25;", 2, 7);
    }

    private static void withinSixOthers() {
        CHECK.says("of an EXPR within 6 others (a NUMBER, any word, a parenthesis)");
        for (int within = 0; within <= 7; within++) {
            String ahead = "lifts " + "(".repeat(within);
            String behind = ")".repeat(within) + ";";
            for (String part : new String[] {"5", "note", "not 5", "not not not not not not heat", "(5)+1"}) {
                boolean fits = within + (part.startsWith("(") ? 1 : 0) < 6;
                fault(ahead + part + behind, fits ? 0 : 2, fits ? NONE : 12);
            }
        }
        for (String token : new String[] {"5", "12345", "note", "nothing", "not", "and", "or", "lifts", "tin", "("}) {
            fault("lifts ((((((" + token, 2, 12);
            fault("lifts (((((( \n" + token + " 7", 2, 14);
        }
        for (String token : new String[] {")", "+", "-", "*", "/", "<", "=", ";", "?", "A", ""}) {
            fault("lifts ((((((" + token, 1, 12);
        }
        fits("lifts (1)+(2)+(3)+(4)+(5)+(6)+(7);");
        fits("lifts (((((1)))))+(((((2)))))<(((((3)))));");
        fault("lifts (((((1)))))+((((((2))))));", 2, 24);
        fault("lifts 1 and (2 or (3 < (4 + (5 * (6 / (7 = 8))))));", 2, 39);
    }

    private static void seventhNot() {
        CHECK.says("the seventh 'not' side by side");
        for (int many = 1; many <= 8; many++) {
            boolean fits = many <= 6;
            fault("lifts " + "not ".repeat(many) + "5;", fits ? 0 : 2, fits ? NONE : 30);
            fault("lifts 1 and " + "not ".repeat(many) + "5;", fits ? 0 : 2, fits ? NONE : 36);
            fault("lifts 1 or " + "not\n".repeat(many) + "5;", fits ? 0 : 2, fits ? NONE : 35);
            fault("lifts (" + "not ".repeat(many) + "5);", fits ? 0 : 2, fits ? NONE : 31);
        }
        String six = "not ".repeat(6);
        fits("lifts " + six + "(" + six + "(" + six + "5));");
        fits("lifts " + six + "5 and " + six + "5 or " + six + "5;");
        fault("lifts " + six + "not", 2, 30);
        fault("lifts " + six + ";", 1, 30);
        fault("lifts " + six + "nothing", 3, 30);
    }

    private static void wordsWhereAPartMustStand() {
        CHECK.says("3 any word where a PART must stand that is no VALUE");
        String[] aheadOfNot = {"lifts ", "lifts (", "lifts 1 and ", "lifts 1 or ", "lifts not "};
        String[] aheadOfSum = {"lifts 1+", "lifts 1-", "lifts 1*", "lifts 1/", "lifts 1<", "lifts 1="};
        String[] words = {"a", "z", "and", "or", "tin", "copper", "iron", "enamel", "stove", "dish", "lifts", "kettle", "notes"};
        for (String word : words) {
            for (String text : aheadOfNot) {
                fault(text + word, 3, text.length());
            }
            for (String text : aheadOfSum) {
                fault(text + word, 3, text.length());
            }
        }
        for (String text : aheadOfNot) {
            fault(text + "not", 1, text.length() + 3);
        }
        for (String text : aheadOfSum) {
            fault(text + "not 5", 3, text.length());
        }
    }

    private static void oneTestAtMost() {
        CHECK.says("NOT: 'not' NOT | SUM [('<' | '=') SUM]");
        for (String sign : new String[] {"<", "="}) {
            for (String other : new String[] {"<", "="}) {
                fault("lifts 1" + sign + "2" + other + "3;", 1, 9);
                fault("lifts not 1" + sign + "2+2" + other + "3;", 1, 15);
                fits("lifts (1" + sign + "2)" + other + "3;");
                fits("lifts 1" + sign + "2 and 3" + other + "4;");
            }
        }
    }
}
