import java.util.Random;

/** The whole 512 calls for which an object is used: long evenings, many texts, the last MINUTES, images between them. */
public final class LongTest {
    private static final Check CHECK = new Check("LongTest");
    private static final int NONE = Check.NONE;
    // A call's name, and for each of its numbers the least and the highest that is drawn: k, d, s stand for things.
    private static final String[] CALLS = {
        "count -1 15", "kettle k -1 9", "stove s -1 2", "dish d -3 3", "minutes 1 30", "minutes 1 6", "minutes -1 32",
        "put k s", "put k s", "put k s", "lift k", "pour k -1 41", "pour k 2 9", "scrape k", "undo", "undo", "then k 0 121",
        "then k 1 30", "sung k", "done d", "fugue 0 9", "fugue 1 2", "quiet", "loudest -1 2", "dry k", "soonest d s",
        "soonest d -1 -1", "tuned k -1 61", "tuned k 5 20", "chord d", "burner k 0 121", "together k k 0 41 -1 25",
        "together k k 20 40 0 6", "hear 0 61 -2 61", "hear 1 20 5 20", "hear 1 9 -1 -1", "chalk -1 3", "listen -1 2", "forget",
        "game k k -1 2", "game k k 0 1", "evening r -1 91 -1 3", "evening r 1 60 0 2", "image", "restore",
    };

    public static void main(String[] args) {
        CHECK.says("An object is used for at most 512 calls after it has been made; what later calls answer is free.");
        upTo9999();
        upTo9999BySmallerSteps();
        moreThan40Acts();
        undoneAgainAndAgain();
        manyTexts();
        longTexts();
        imagesBetween();
        heardAndForgotten();
        refusedAllEvening();
        int runs = args.length > 0 ? Integer.parseInt(args[0]) : 60;
        for (int seed = 0; seed < runs; seed++) {
            drawn(seed);
        }
        CHECK.end();
    }

    /** The tin one sings in the minutes 9 to 21, the iron one from 99 on; either is lifted off when it is dry. */
    private static void upTo9999() {
        Pair pair = new Pair(CHECK, "up to 9999");
        pair.text("tin 5 20 5 0;tin 8 20 20 0;iron 8 40 36 2;stove 10;stove 5;dish 3;lifts heat=150 and fill=0;");
        pair.ask("put", 0, 0);
        pair.ask("put", 2, 1);
        for (int i = 1; i <= 333; i++) {
            pair.due(30 * i, "minutes", 30);
        }
        pair.due(13, "kettle", 0, 7);
        pair.due(1, "kettle", 0, 4);
        pair.due(NONE, "kettle", 2, 6);
        pair.due(3, "kettle", 2, 4);
        pair.due(40, "count", 9);
        pair.due(NONE, "minutes", 10);
        pair.due(NONE, "minutes", 30);
        pair.due(0, "pour", 0, 5);
        pair.ask("put", 0, 0);
        pair.due(10, "sung", 0);
        pair.due(9999, "minutes", 9);
        pair.due(NONE, "minutes", 1);
        pair.due(3, "count", 13);
        // What comes if only minutes go by, goes on behind 9999: HEAT 100 in the next minute, from which 3 takes a cup.
        pair.due(8, "then", 0, 1);
        pair.due(9, "then", 0, 2);
        pair.due(1, "sung", 0);
        pair.due(13, "dry", 0);
        pair.due(14, "quiet");
        pair.due(1, "loudest", 0);
        pair.due(1, "loudest", 1);
        pair.due(1, "fugue", 1);
        pair.due(NONE, "done", 0);
        pair.due(1, "hear", 1, 8);
        pair.due(1, "chalk", 2);
        pair.due(1, "listen", 0);
        pair.ask("chalk", 0);
        pair.ask("soonest", 0, NONE);
        pair.ask("evening", 77, 90, 1);
        pair.ask("together", 0, 2, 40, 0);
        pair.ask("image");
        for (int i = 1; i <= 40; i++) {
            pair.due(40 - i, "undo");
        }
        pair.due(NONE, "undo");
        pair.due(9990 - 37 * 30, "count", 3);
        pair.due(8910, "minutes", 30);
        pair.due(1, "restore");
        pair.due(9999, "count", 3);
        pair.due(40, "count", 9);
        pair.due(NONE, "minutes", 1);
        pair.due(39, "undo");
        pair.due(9990, "count", 3);
        pair.due(NONE, "minutes", 10);
        while (pair.left() > 10) {
            pair.ask("undo");
            pair.ask("restore");
        }
        pair.due(9999, "count", 3);
        pair.due(NONE, "minutes", 30);
    }

    /** 344 times 29, and 23: one is filled up again and again, sings, and goes dry, until its chalk is 9. */
    private static void upTo9999BySmallerSteps() {
        Pair pair = new Pair(CHECK, "by smaller steps");
        pair.text("copper 9 20 3 0;stove 40;dish 1;");
        pair.ask("put", 0, 0);
        int minute = 0;
        for (int i = 1; i <= 344; i++) {
            minute += 29;
            pair.due(minute, "minutes", 29);
            if (i % 3 == 0 && i <= 27) {
                pair.due(i / 3, "kettle", 0, 4);
                pair.due(0, "pour", 0, 3 + i % 5);
            } else if (i % 30 == 0) {
                pair.ask("pour", 0, 10 + i % 7);
            }
        }
        pair.due(9, "kettle", 0, 4);
        pair.due(9976, "count", 3);
        pair.due(NONE, "minutes", 24);
        pair.due(9999, "minutes", 23);
        for (int many = 1; many <= 30; many++) {
            pair.due(NONE, "minutes", many);
        }
        pair.due(31, "count", 13);
        while (pair.left() > 0) {
            pair.ask("kettle", 0, pair.left() % 9);
        }
    }

    /** FILLS 1, 2 .. of 41 go round: of 230 acts the last 40 can be undone, then as many again. */
    private static void moreThan40Acts() {
        CHECK.says("ACTS (at most 40 are kept, the latest ones)");
        Pair pair = new Pair(CHECK, "more than 40 acts");
        pair.text("tin 5 40 0 0;");
        int fill = 0;
        for (int acts : new int[] {230, 40, 39, 41}) {
            int kept = (int) pair.ask("count", 9);
            for (int i = 1; i <= acts; i++) {
                fill = (fill + 1) % 41;
                pair.due(0, "pour", 0, fill);
            }
            kept = Math.min(40, kept + acts);
            pair.due(kept, "count", 9);
            int back = acts == 230 ? 40 : 13;
            for (int i = 1; i <= back; i++) {
                pair.due(kept - i, "undo");
            }
            fill = (fill + 41 - back) % 41;
            pair.due(fill, "kettle", 0, 3);
        }
        while (pair.left() > 0) {
            pair.ask("undo");
        }
    }

    /** Four acts, three of them undone, over and over: the oldest of those left can be undone at the end. */
    private static void undoneAgainAndAgain() {
        CHECK.says("They are UNDONE, the last one first.");
        Pair pair = new Pair(CHECK, "undone again and again");
        pair.text("tin 5 20 5 7;stove 10;stove 20;");
        int minute = 0;
        for (int i = 1; i <= 60; i++) {
            pair.due(minute + 2, "minutes", 2);
            pair.ask("put", 0, i % 2);
            pair.ask("put", 0, 1 - i % 2);
            pair.ask("lift", 0);
            pair.due(Math.min(40, i + 3) - 1, "undo");
            pair.due(Math.min(40, i + 3) - 2, "undo");
            pair.due(Math.min(40, i + 3) - 3, "undo");
            minute += 2;
        }
        // 40 were kept each time, and three of them undone: 37 minutes' acts are left.
        pair.due(37, "count", 9);
        pair.due(NONE, "kettle", 0, 6);
        for (int i = 36; i >= 0; i--) {
            minute -= 2;
            pair.due(i, "undo");
        }
        pair.due(NONE, "undo");
        pair.due(minute, "count", 3);
    }

    /** Every third text has a fault: the one ahead of it stays, with what was done in it. */
    private static void manyTexts() {
        CHECK.says("The tape's first n bytes (it is empty then) are a KITCHEN, all anew: 0, or the FAULT (all stays, but STATUS)."
                + " ACTS, what is HEARD, the image are gone.");
        Pair pair = new Pair(CHECK, "many texts");
        int power = 0;
        for (int t = 0; pair.left() >= 16; t++) {
            boolean isFaulty = t % 3 == 2;
            int told = 1 + t % (isFaulty ? 7 : 40);
            long fault = pair.text(isFaulty ? "stove " + told + ";dish 2 2;" : "tin 5 9 2 3;stove " + told + ";");
            power = isFaulty ? power : told;
            CHECK.same("the fault of text " + t, fault, isFaulty ? 4 : 0);
            pair.due(isFaulty ? 15 : NONE, "fault");
            pair.due(power, "stove", 0, 0);
            pair.due(isFaulty ? 1 : 0, "count", 9);
            pair.due(isFaulty ? 1 : 0, "count", 10);
            pair.due(isFaulty ? 1 : 0, "count", 12);
            // The image is of a time ahead of the fault: STATUS is as it was then.
            pair.due(isFaulty ? 1 : 0, "restore");
            pair.due(0, "count", 12);
            if (!isFaulty) {
                pair.due(3, "scrape", 0);
                pair.due(1, "hear", 1 + t % 60, t % 61);
                pair.ask("image");
                pair.ask("count", 3);
                pair.ask("chalk", 2);
            }
        }
        while (pair.left() > 0) {
            pair.ask("undo");
        }
    }

    /** Texts of 600 bytes, one after another, each of which fills the tape up; and what is too much for it. */
    private static void longTexts() {
        CHECK.says("NONE, and none come, if it would have more than 600");
        Pair pair = new Pair(CHECK, "long texts");
        for (int t = 0; t < 15; t++) {
            StringBuilder text = new StringBuilder();
            int kettles = 1 + t % 8;
            for (int k = 0; k < kettles; k++) {
                text.append("enamel ").append(1 + t).append(" 40 ").append(k).append(" 0;");
            }
            text.append("lifts 1");
            while (text.length() < 598) {
                text.append("+1");
            }
            while (text.length() < 599) {
                text.append(" ");
            }
            text.append(t % 4 == 3 ? ")" : ";");
            for (int i = 0; i < 600; i += 20) {
                int[] five = new int[5];
                for (int j = 0; j < 20; j++) {
                    five[j / 4] = five[j / 4] << 8 | text.charAt(i + j);
                }
                pair.due(i + 20, "feed", five);
            }
            pair.due(NONE, "feed", 0, 0, 0, 0, 0);
            pair.due(t % 4 == 3 ? 1 : 0, "kitchen", 600);
            pair.due(t % 4 == 3 ? 599 : NONE, "fault");
            pair.due(t % 4 == 3 ? kettles - 1 : kettles, "count", 0);
        }
        while (pair.left() > 0) {
            pair.ask("count", 11);
        }
    }

    /** 50 images, each two minutes later, gone back to twice: what is done and refused between them is gone. */
    private static void imagesBetween() {
        CHECK.says("It is as the IMAGE again: true.");
        Pair pair = new Pair(CHECK, "images between");
        pair.text("tin 5 20 5 0;stove 10;");
        pair.ask("put", 0, 0);
        for (int i = 1; i <= 50; i++) {
            pair.due(2 * i, "minutes", 2);
            pair.due(NONE, "minutes", 0);
            pair.ask("image");
            for (int times = 0; times < 2; times++) {
                pair.ask(times == 0 ? "lift" : "undo", times == 0 ? new int[] {0} : new int[0]);
                pair.due(1, "restore");
            }
            pair.due(2 * i, "count", 3);
            pair.due(Math.min(40, i + 1), "count", 9);
            pair.due(i, "count", 13);
        }
        pair.due(13, "kettle", 0, 7);
        while (pair.left() > 0) {
            pair.ask("undo");
        }
    }

    /** Eight are heard, the ninth refused, all forgotten, 28 times; by the sixth hearing no chalk is left. */
    private static void heardAndForgotten() {
        CHECK.says("All that is HEARD is forgotten.");
        Pair pair = new Pair(CHECK, "heard and forgotten");
        pair.text("tin 5 20 5 0;stove 10;");
        pair.ask("put", 0, 0);
        for (int i = 1; i <= 28; i++) {
            for (int h = 1; h <= 8; h++) {
                pair.due(h, "hear", 10, h < 6 ? 7 : 8);
            }
            pair.due(NONE, "hear", 10, 7);
            pair.due(i, "count", 14);
            pair.due(0, "chalk", 0);
            pair.due(NONE, "listen", 0);
            pair.ask("forget");
            pair.due(1, "hear", 10, 7);
            pair.due(3, "chalk", 0);
            pair.due(3, "chalk", 1);
            pair.ask("forget");
        }
    }

    /** Each refused or missing call over and over: only STATUS counts on. */
    private static void refusedAllEvening() {
        CHECK.says("STATUS: how many calls were refused: 0 TEXTS with a FAULT, 1 ACTS, 2 what is HEARD.");
        Pair pair = new Pair(CHECK, "refused all evening");
        pair.text("tin 5 20 5 0;stove 10;dish 3;");
        pair.ask("put", 0, 0);
        int rounds = 0;
        while (pair.left() >= 28) {
            rounds++;
            pair.due(0, "put", 0, 0);
            pair.due(NONE, "minutes", 31);
            pair.due(NONE, "pour", 0, 5);
            pair.due(NONE, "scrape", 0);
            pair.due(Pair.MISSING, "lift", 1);
            pair.due(NONE, "hear", 0, 0);
            pair.due(Pair.MISSING, "soonest", 0, 1);
            pair.due(Pair.ILLEGAL, "then", 0, 121);
            pair.due(Pair.ILLEGAL, "fugue", 9);
            pair.due(Pair.MISSING, "evening", 0, 91, 3);
            pair.due(Pair.ILLEGAL, "kitchen", 1);
            pair.due(0, "restore");
            CHECK.same("a fault", pair.text("dish 3;dish 4"), 1);
            pair.due(13, "fault");
            pair.due(rounds, "count", 12);
            pair.due(4 * rounds, "count", 13);
            pair.due(rounds, "count", 14);
            pair.due(1, "count", 9);
            pair.due(0, "count", 3);
        }
        while (pair.left() > 0) {
            pair.due(4 * rounds, "count", 13);
        }
    }

    /** 512 calls of any kind, texts among them. */
    private static void drawn(int seed) {
        CHECK.says("Nothing is promised beyond the answers and state changes described above");
        Random random = new Random(seed);
        ModelTest texts = new ModelTest(5000 + seed);
        Pair pair = new Pair(CHECK, "drawn by " + seed);
        while (pair.left() > 0) {
            if (pair.model.count(0) == 0 && pair.left() > 40 || random.nextInt(seed % 3 == 0 ? 25 : 150) == 0) {
                String text = random.nextInt(4) == 0 ? texts.spoilt(texts.text()) : texts.text();
                if (text.length() <= 600 && Pair.callsOf(text) <= pair.left()) {
                    pair.text(text);
                    continue;
                }
            }
            if (random.nextInt(15) == 0) {
                concert(pair, random);
            } else {
                call(pair, random);
            }
        }
    }

    private static void call(Pair pair, Random random) {
        String[] words = CALLS[random.nextInt(CALLS.length)].split(" ");
        boolean isDear = pair.model.count(0) > 4 && pair.model.count(1) > 2;
        if (words[0].equals("soonest") && isDear && random.nextInt(9) != 0) {
            return;
        }
        int[] numbers = new int[words.length];
        int many = 0;
        for (int i = 1; i < words.length; i++) {
            int thing = "kds".indexOf(words[i]);
            if (thing >= 0) {
                int have = pair.model.count(new int[] {0, 2, 1}[thing]);
                numbers[many] = random.nextInt(20) == 0 ? random.nextInt(12) - 2 : random.nextInt(Math.max(1, have));
            } else if (words[i].equals("r")) {
                numbers[many] = random.nextInt();
            } else {
                int low = Integer.parseInt(words[i]);
                i++;
                numbers[many] = low + random.nextInt(Integer.parseInt(words[i]) - low + 1);
            }
            many++;
        }
        pair.ask(words[0], java.util.Arrays.copyOf(numbers, many));
    }

    /** Some are poured, put on stoves and heated until they sing. */
    private static void concert(Pair pair, Random random) {
        for (int s = 0; s < pair.model.count(1) && pair.left() > 3; s++) {
            int k = random.nextInt(Math.max(1, pair.model.count(0)));
            pair.ask("put", k, s);
            if (pair.model.count(0) > k && pair.model.kettle(k, 3) < 3) {
                pair.ask("pour", k, 4 + random.nextInt(6));
            }
        }
        int many = pair.model.fugue(1);
        if (many > 0 && many <= 30 && pair.left() > 0) {
            pair.ask("minutes", many);
        }
    }
}
