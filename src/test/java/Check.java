import java.nio.charset.StandardCharsets;
import java.util.NoSuchElementException;

/** Counts answers that are not as due, and ends a test with exit code 1 if there was one. */
final class Check {
    static final int NONE = KettleChoir.NONE;

    interface Call {
        Object ask();
    }

    private final String name;
    private String sentence = "";
    private int asked;
    private int wrong;

    Check(String name) {
        this.name = name;
    }

    /** The document's words that the next answers are held to, told with each that is not as due. */
    void says(String words) {
        sentence = " (\"" + words + "\")";
    }

    void same(String what, long got, long want) {
        asked++;
        if (got != want) {
            tell(what + " is " + got + ", due is " + want);
        }
    }

    private void tell(String fault) {
        wrong++;
        System.out.println(name + ": " + fault + sentence);
    }

    void same(String what, boolean got, boolean want) {
        same(what, got ? 1 : 0, want ? 1 : 0);
    }

    void holds(String what, boolean so) {
        same(what, so, true);
    }

    void missing(String what, Call call) {
        fails(what, call, NoSuchElementException.class);
    }

    void illegal(String what, Call call) {
        fails(what, call, IllegalArgumentException.class);
    }

    private void fails(String what, Call call, Class<? extends RuntimeException> due) {
        asked++;
        String got;
        try {
            got = "answered " + call.ask();
        } catch (RuntimeException e) {
            got = "threw " + e.getClass().getName();
        }
        if (!got.equals("threw " + due.getName())) {
            tell(what + " " + got + ", due is " + due.getName());
        }
    }

    void end() {
        System.out.println(name + ": " + asked + " answers, " + wrong + " not as due");
        if (wrong != 0) {
            System.exit(1);
        }
    }

    /** Puts a text on the tape, with blanks behind it up to a multiple of 20 bytes. */
    static void tape(KettleChoir choir, String text) {
        byte[] bytes = text.getBytes(StandardCharsets.ISO_8859_1);
        for (int i = 0; i < bytes.length; i += 20) {
            int[] four = new int[5];
            for (int j = 0; j < 20; j++) {
                int b = i + j < bytes.length ? bytes[i + j] & 255 : ' ';
                four[j / 4] = four[j / 4] << 8 | b;
            }
            choir.feed(four[0], four[1], four[2], four[3], four[4]);
        }
    }

    /** What kitchen() says to a text. */
    static int read(KettleChoir choir, String text) {
        tape(choir, text);
        return choir.kitchen(text.length());
    }

    /** Lets minutes go by on one stove behind the other, none of which may be too many, until it is just so hot. */
    void heat(KettleChoir choir, int kettle, int due) {
        for (int s = 0; s < choir.count(1); s++) {
            choir.put(kettle, s);
            for (int m = 0; m < 99 && choir.kettle(kettle, 5) < due; m++) {
                choir.minutes(1);
                if (choir.kettle(kettle, 5) > due) {
                    choir.undo();
                    break;
                }
            }
        }
        same("the heat of kettle " + kettle, choir.kettle(kettle, 5), due);
    }

    /** A new object with this kitchen. */
    KettleChoir choir(String text) {
        KettleChoir choir = new KettleChoir();
        same("the fault of " + text, read(choir, text), 0);
        return choir;
    }
}
