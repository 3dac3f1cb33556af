import java.util.ArrayList;
import java.util.List;
import java.util.NoSuchElementException;
import java.util.Random;

/** Many runs of drawn calls, by fixed seeds, on the class and on the model of the document: all answers are the same. */
public final class ModelTest {
    private static final String[] VALUES = {"note", "sung", "third", "heat", "fill", "chalk", "singers"};

    private final Random random;
    private KettleChoir choir = new KettleChoir();
    private Model model = new Model();
    private boolean dear;
    private final List<String> told = new ArrayList<>();

    ModelTest(long seed) {
        random = new Random(seed);
    }

    public static void main(String[] args) {
        int wrong = 0;
        long answers = 0;
        int texts = args.length > 0 ? Integer.parseInt(args[0]) : 20000;
        int runs = args.length > 1 ? Integer.parseInt(args[1]) : 700;
        for (int seed = 0; seed < texts && wrong < 5; seed++) {
            ModelTest test = new ModelTest(seed);
            wrong += test.texts() ? 0 : 1;
            answers += test.told.size();
        }
        for (int seed = 0; seed < runs && wrong < 5; seed++) {
            ModelTest test = new ModelTest(1000000 + seed);
            wrong += test.run(random(seed)) ? 0 : 1;
            answers += test.told.size();
        }
        System.out.println("ModelTest: " + answers + " calls, " + wrong + " runs not as due");
        if (wrong != 0) {
            System.exit(1);
        }
    }

    private static int random(int seed) {
        return seed % 10 == 0 ? 480 : 150;
    }

    private int upTo(int low, int high) {
        return low + random.nextInt(high - low + 1);
    }

    private boolean one(int of) {
        return random.nextInt(of) == 0;
    }

    // ---- texts

    private boolean texts() {
        for (int i = 0; i < 3; i++) {
            String text = text();
            for (int times = upTo(0, 3); times > 0; times--) {
                text = spoilt(text);
            }
            if (!tell(text)) {
                return false;
            }
        }
        return true;
    }

    private boolean tell(String text) {
        String fits = text.length() > 600 ? text.substring(0, 600) : text;
        for (int i = 0; i < fits.length(); i += 20) {
            int[] four = new int[5];
            for (int j = 0; j < 20; j++) {
                four[j / 4] = four[j / 4] << 8 | (i + j < fits.length() ? fits.charAt(i + j) : ' ');
            }
            if (!same("feed " + fits, () -> choir.feed(four[0], four[1], four[2], four[3], four[4]),
                    () -> model.feed(four))) {
                return false;
            }
        }
        int n = one(30) ? upTo(-1, 601) : fits.length();
        return same("kitchen(" + n + ") of " + fits, () -> choir.kitchen(n), () -> model.kitchen(n))
                && same("fault()", () -> choir.fault(), () -> model.fault()) && state();
    }

    private String blank() {
        return one(12) ? "\n " : " ";
    }

    String text() {
        StringBuilder text = new StringBuilder();
        int pots = one(4) ? upTo(0, 9) : upTo(1, 4);
        int stoves = one(6) ? upTo(0, 5) : upTo(1, 3);
        int dishes = one(6) ? upTo(0, 6) : upTo(1, 3);
        List<String> lines = new ArrayList<>();
        int spouts = upTo(1, 18);
        for (int i = 0; i < pots; i++) {
            lines.add(kettleLine(spouts));
        }
        for (int i = 0; i < stoves; i++) {
            lines.add("stove" + blank() + (one(40) ? upTo(0, 50) : one(3) ? upTo(1, 20) : upTo(20, 40)));
        }
        for (int i = 0; i < dishes; i++) {
            String dish = "dish";
            for (int steps = one(20) ? upTo(0, 4) : one(3) ? 2 : 1; steps > 0; steps--) {
                dish += blank() + (one(100) ? upTo(0, 30) : upTo(1, 8));
            }
            lines.add(dish);
        }
        for (int rules = one(20) ? 2 : upTo(0, 1); rules > 0; rules--) {
            // A rule by chance lifts nearly all at once: half of them wait for a song.
            String late = one(2) ? "" : upTo(1, 9) + "<sung and ";
            lines.add("lifts " + late + expr(one(20) ? 7 : upTo(0, 3)));
        }
        while (!lines.isEmpty()) {
            text.append(lines.remove(one(3) ? random.nextInt(lines.size()) : 0)).append(one(50) ? " ; " : ";");
        }
        dear = pots > 4 && stoves > 2;
        return text.toString();
    }

    private String kettleLine(int spouts) {
        String[] kinds = {"tin", "copper", "iron", "enamel"};
        int size = upTo(one(10) ? 1 : 8, 40);
        int fill = one(8) ? upTo(0, size) : Math.min(size, upTo(2, 12));
        int chalk = one(10) ? 9 : one(3) ? upTo(0, 8) : upTo(0, 2);
        int spout = one(50) ? upTo(0, 26) : spouts + upTo(0, 6);
        if (one(60)) {
            size += 3;
        }
        if (one(60)) {
            fill += 20;
        }
        return kinds[random.nextInt(4)] + blank() + spout + blank() + size + blank() + fill + blank() + chalk;
    }

    private String expr(int deep) {
        String text = "";
        for (int times = one(3) ? 2 : 1; times > 0; times--) {
            text += (text.isEmpty() ? "" : one(2) ? " or " : " and ") + test(deep);
        }
        return text;
    }

    private String test(int deep) {
        String text = "";
        for (int nots = one(60) ? upTo(5, 8) : one(4) ? 1 : 0; nots > 0; nots--) {
            text += "not ";
        }
        text += sum(deep);
        return one(2) ? text : text + (one(2) ? "<" : " = ") + sum(deep);
    }

    private String sum(int deep) {
        String text = part(deep);
        for (int more = one(2) ? upTo(0, 3) : 0; more > 0; more--) {
            text += "+-*/".charAt(random.nextInt(4)) + part(0);
        }
        return text;
    }

    private String part(int deep) {
        if (deep > 0 && !one(10)) {
            return "(" + expr(deep - 1) + ")";
        }
        return one(3) ? "" + (one(8) ? upTo(0, 9999) : upTo(0, 160)) : VALUES[random.nextInt(7)];
    }

    String spoilt(String text) {
        String[] bits = {";", "(", ")", "+", "-", "*", "/", "<", "=", " ", "\n", "not ", " or ", " and ", "0", "9", "12345",
            "tin", "lifts ", "dish ", "stove ", "\t", "A", "{", "`", ":", "\u00e9", "note", "x", "((((((", "3 3 ", ""};
        int from = random.nextInt(text.length() + 1);
        int to = Math.min(text.length(), from + random.nextInt(3));
        return text.substring(0, from) + bits[random.nextInt(bits.length)] + text.substring(to);
    }

    // ---- runs

    private boolean run(int calls) {
        for (int tries = 0; tries < 20 && choir.count(0) == 0; tries++) {
            if (!tell(text())) {
                return false;
            }
        }
        for (int i = 0; i < calls; i++) {
            if (!(one(12) ? concert() : call())) {
                return false;
            }
            if (one(4) && !state()) {
                return false;
            }
        }
        return state();
    }

    private int kettle() {
        return one(40) ? upTo(-2, 9) : random.nextInt(Math.max(1, choir.count(0)));
    }

    /** Another kettle, that sang, if there is one by chance: games and hearing are about those. */
    private int singer(int otherwise) {
        int k = random.nextInt(8);
        return (choir.count(4) >> k & 1) == 1 ? k : otherwise;
    }

    private int stove() {
        return one(40) ? upTo(-2, 5) : random.nextInt(Math.max(1, choir.count(1)));
    }

    private int dish() {
        return one(40) ? upTo(-2, 6) : random.nextInt(Math.max(1, choir.count(2)));
    }

    private int what(int high) {
        return one(30) ? upTo(-2, high + 2) : upTo(0, high);
    }

    private boolean call() {
        int which = random.nextInt(34);
        if (which < 12) {
            return act(which);
        }
        return which < 23 ? askAhead(which) : askMore(which);
    }

    /** Several are filled, scraped, put on stoves, and heated until some sing at once: by chance alone few ever do. */
    private boolean concert() {
        boolean so = true;
        for (int i = 0; i < choir.count(0) && so; i++) {
            int k = i;
            int fill = upTo(4, 9);
            if (choir.kettle(k, 3) < 3) {
                so &= same("pour(" + k + ", " + fill + ")", () -> choir.pour(k, fill), () -> model.pour(k, fill));
            }
            so &= same("scrape(" + k + ")", () -> choir.scrape(k), () -> model.scrape(k));
        }
        for (int i = 0; i < choir.count(1) && so; i++) {
            int s = i;
            int k = kettle();
            so &= same("put(" + k + ", " + s + ")", () -> choir.put(k, s), () -> model.put(k, s));
        }
        int many = Math.max(choir.fugue(upTo(1, 3)), choir.fugue(1));
        return so && (many == -1 || same("minutes(" + many + ")", () -> choir.minutes(many), () -> model.minutes(many)));
    }

    private boolean act(int which) {
        int k = kettle();
        int s = stove();
        switch (which) {
            case 0:
            case 1:
            case 2:
            case 3: {
                int many = one(20) ? upTo(-1, 32) : one(4) ? upTo(5, 30) : upTo(1, 6);
                return same("minutes(" + many + ")", () -> choir.minutes(many), () -> model.minutes(many));
            }
            case 4:
            case 5:
            case 6:
            case 7:
                return same("put(" + k + ", " + s + ")", () -> choir.put(k, s), () -> model.put(k, s));
            case 8:
                return same("lift(" + k + ")", () -> choir.lift(k), () -> model.lift(k));
            case 9: {
                int fill = one(20) ? upTo(-2, 44) : upTo(0, 25);
                return same("pour(" + k + ", " + fill + ")", () -> choir.pour(k, fill), () -> model.pour(k, fill));
            }
            case 10:
                return same("scrape(" + k + ")", () -> choir.scrape(k), () -> model.scrape(k));
            default:
                return same("undo()", () -> choir.undo(), () -> model.undo());
        }
    }

    private boolean askAhead(int which) {
        int k = kettle();
        int d = dish();
        switch (which) {
            case 12:
            case 13: {
                int m = one(12) ? upTo(-1, 123) : upTo(1, 40);
                return same("then(" + k + ", " + m + ")", () -> choir.then(k, m), () -> model.then(k, m));
            }
            case 14:
                return same("sung(" + k + ")", () -> choir.sung(k), () -> model.sung(k));
            case 15:
                return same("done(" + d + ")", () -> choir.done(d), () -> model.done(d));
            case 16: {
                int many = upTo(one(10) ? -1 : 1, one(10) ? 10 : 3);
                return same("fugue(" + many + ")", () -> choir.fugue(many), () -> model.fugue(many));
            }
            case 17:
                return same("quiet()", () -> choir.quiet(), () -> model.quiet());
            case 18: {
                int what = what(1);
                return same("loudest(" + what + ")", () -> choir.loudest(what), () -> model.loudest(what));
            }
            case 19:
                return same("dry(" + k + ")", () -> choir.dry(k), () -> model.dry(k));
            case 20: {
                int i = one(3) ? -1 : stove();
                return dear && !one(20) || same("soonest(" + d + ", " + i + ")", () -> choir.soonest(d, i),
                        () -> model.soonest(d, i));
            }
            case 21: {
                int note = one(12) ? upTo(-1, 62) : upTo(0, 31);
                return same("tuned(" + k + ", " + note + ")", () -> choir.tuned(k, note), () -> model.tuned(k, note));
            }
            default:
                return same("chord(" + d + ")", () -> choir.chord(d), () -> model.chord(d));
        }
    }

    private boolean askMore(int which) {
        int k = singer(kettle());
        int o = singer(kettle());
        switch (which) {
            case 23: {
                int m = one(12) ? upTo(-1, 123) : upTo(1, 40);
                return same("burner(" + k + ", " + m + ")", () -> choir.burner(k, m), () -> model.burner(k, m));
            }
            case 24: {
                int p = one(12) ? upTo(-1, 42) : upTo(10, 40);
                int s = one(12) ? upTo(-1, 26) : upTo(0, 6);
                return same("together(" + k + ", " + o + ", " + p + ", " + s + ")", () -> choir.together(k, o, p, s),
                        () -> model.together(k, o, p, s));
            }
            case 25:
            case 26: {
                int m = one(12) ? upTo(-1, 62) : upTo(1, 20);
                int note = one(6) ? upTo(-3, 62) : k >= 0 && k < choir.count(0) && m > 0 && m < 61 ? choir.then(k, m) : 5;
                return same("hear(" + m + ", " + note + ")", () -> choir.hear(m, note), () -> model.hear(m, note));
            }
            case 27: {
                int what = what(2);
                return same("chalk(" + what + ")", () -> choir.chalk(what), () -> model.chalk(what));
            }
            case 28: {
                int what = what(1);
                return same("listen(" + what + ")", () -> choir.listen(what), () -> model.listen(what));
            }
            case 29: {
                int what = what(1);
                return same("game(" + k + ", " + o + ", " + what + ")", () -> choir.game(k, o, what),
                        () -> model.game(k, o, what));
            }
            case 30:
            case 31: {
                int seed = random.nextInt();
                int n = one(12) ? upTo(-1, 92) : upTo(0, 60);
                int what = what(2);
                return same("evening(" + seed + ", " + n + ", " + what + ")", () -> choir.evening(seed, n, what),
                        () -> model.evening(seed, n, what));
            }
            case 32:
                return one(2) ? forget() : image();
            default:
                return one(25) ? tell(one(2) ? text() : spoilt(text()))
                        : one(3) || same("restore()", () -> choir.restore(), () -> model.restore());
        }
    }

    private boolean forget() {
        choir.forget();
        model.forget();
        told.add("forget()");
        return true;
    }

    private boolean image() {
        choir.image();
        model.image();
        told.add("image()");
        return true;
    }

    /** All that can be read of the state. */
    private boolean state() {
        boolean so = true;
        for (int w = -1; w <= 15; w++) {
            int what = w;
            so &= same("count(" + what + ")", () -> choir.count(what), () -> model.count(what));
        }
        for (int i = -1; i <= 8; i++) {
            int thing = i;
            for (int w = -3; w <= 9; w++) {
                int what = w;
                so &= same("kettle(" + thing + ", " + what + ")", () -> choir.kettle(thing, what),
                        () -> model.kettle(thing, what));
                so &= same("stove(" + thing + ", " + what + ")", () -> choir.stove(thing, what),
                        () -> model.stove(thing, what));
                so &= same("dish(" + thing + ", " + what + ")", () -> choir.dish(thing, what),
                        () -> model.dish(thing, what));
            }
        }
        return so;
    }

    private boolean same(String call, Check.Call asked, Check.Call due) {
        String got = answer(asked);
        String want = answer(due);
        if (!call.startsWith("count") && !call.startsWith("kettle") && !call.startsWith("stove")
                && !call.startsWith("dish")) {
            told.add(call + " -> " + got);
        }
        if (got.equals(want)) {
            return true;
        }
        System.out.println("ModelTest: " + call + " answered " + got + ", due is " + want + ", behind:");
        told.forEach(System.out::println);
        return false;
    }

    private static String answer(Check.Call call) {
        try {
            return String.valueOf(call.ask());
        } catch (NoSuchElementException | IllegalArgumentException e) {
            return "throws." + e.getClass().getSimpleName();
        }
    }
}
