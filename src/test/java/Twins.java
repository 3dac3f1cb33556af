import java.util.ArrayList;
import java.util.List;

/**
 * Two objects that the same calls made: what a call must leave as it is, in one of them, is held against the other one,
 * down to each ACT that can be undone, the image and the bytes of the tape. Each look is at new objects, so that none is
 * used for more than its 512 calls.
 */
final class Twins {
    static final int NO_STATUS = -1;
    private static final int STATUS = 12;

    interface Maker {
        KettleChoir make();
    }

    interface Deed {
        void doTo(KettleChoir choir);
    }

    private final Check check;
    private final Maker maker;

    Twins(Check check, Maker maker) {
        this.check = check;
        this.maker = maker;
    }

    /** Kettles of which some sing, acts, something heard, an image, refused calls of each kind, a text on the tape. */
    static KettleChoir busy() {
        KettleChoir choir = busyWithoutTape();
        Check.tape(choir, "tin 9 9 9 9;stove 2;");
        return choir;
    }

    static KettleChoir busyWithoutTape() {
        KettleChoir choir = new KettleChoir();
        Check.read(choir, "tin 5 20 5 3;copper 8 20 5 0;iron 7 30 6 9;stove 10;stove 40;stove 3;dish 6;dish 4 9;"
                + "lifts 12<sung;");
        Check.read(choir, "tins");
        choir.minutes(0);
        choir.lift(0);
        choir.hear(0, 0);
        choir.put(0, 0);
        choir.put(1, 1);
        choir.minutes(11);
        choir.hear(2, 15);
        choir.image();
        choir.pour(2, 9);
        choir.hear(3, 15);
        choir.minutes(1);
        choir.scrape(2);
        choir.pour(2, 31);
        return choir;
    }

    /** The call changes nothing at all. */
    void unchanged(String what, Deed deed) {
        refused(what, NO_STATUS, deed);
    }

    /** The call changes nothing but one of STATUS, which is 1 more. */
    void refused(String what, int status, Deed deed) {
        int acts = maker.make().count(9);
        for (int undos = 0; undos <= acts; undos++) {
            int many = undos;
            compare(what + ", " + many + " undone", status, deed, choir -> undo(choir, many));
        }
        boolean hasImage = maker.make().restore();
        compare(what + ", restored", hasImage ? NO_STATUS : status, deed, choir -> choir.restore());
        compare(what + ", the tape read", status, deed, choir -> choir.kitchen(choir.count(11)));
    }

    private static void undo(KettleChoir choir, int many) {
        for (int i = 0; i < many; i++) {
            choir.undo();
        }
    }

    private void compare(String what, int status, Deed deed, Deed then) {
        KettleChoir one = maker.make();
        KettleChoir other = maker.make();
        deed.doTo(one);
        // A text with a fault has a place of its own.
        boolean placeStays = status != 0 && one.count(12) == other.count(12);
        then.doTo(one);
        then.doTo(other);
        List<Integer> is = all(one);
        List<Integer> due = all(other);
        if (status != NO_STATUS) {
            due.set(STATUS + status, due.get(STATUS + status) + 1);
        }
        check.same(what + ": how many answers", is.size(), due.size());
        for (int i = 0; i < Math.min(is.size(), due.size()); i++) {
            check.same(what + ": answer " + i, is.get(i), due.get(i));
        }
        if (placeStays) {
            check.same(what + ": fault()", one.fault(), other.fault());
        }
    }

    /** All that can be read, and enough of what can be asked that another rule or row would show. */
    static List<Integer> all(KettleChoir choir) {
        List<Integer> all = new ArrayList<>();
        for (int what = 0; what <= 14; what++) {
            all.add(choir.count(what));
        }
        for (int k = 0; k < choir.count(0); k++) {
            for (int what = 0; what <= 8; what++) {
                all.add(choir.kettle(k, what));
            }
            all.add(choir.then(k, 1));
            all.add(choir.then(k, 20));
            all.add(choir.sung(k));
            all.add(choir.dry(k));
        }
        for (int s = 0; s < choir.count(1); s++) {
            all.add(choir.stove(s, 0));
            all.add(choir.stove(s, 1));
        }
        for (int d = 0; d < choir.count(2); d++) {
            for (int i = -2; i < choir.dish(d, -1); i++) {
                all.add(choir.dish(d, i));
            }
            all.add(choir.done(d));
        }
        for (int what = 0; what <= 2; what++) {
            all.add(choir.chalk(what));
            all.add(choir.evening(5, 40, what));
        }
        all.add(choir.listen(0));
        all.add(choir.listen(1));
        all.add(choir.quiet());
        return all;
    }
}
