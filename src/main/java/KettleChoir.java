import java.util.Arrays;
import java.util.NoSuchElementException;

/** A choir of kettles; the promises by number that the comments name are those of DOC.md. */
public final class KettleChoir {
    public static final int NONE = -1;

    private static final int MOST_KETTLES = 8;
    private static final int MOST_STOVES = 4;
    private static final int MOST_DISHES = 5;
    private static final int MOST_STEPS = 3;
    private static final int MOST_BYTES = 600;
    private static final int FED_BYTES = 20;
    private static final int MOST_ACTS = 40;
    private static final int MOST_HEARD = 8;

    private static final int HIGHEST_SPOUT = 24;
    private static final int HIGHEST_SIZE = 40;
    private static final int HIGHEST_CHALK = 9;
    private static final int HIGHEST_POWER = 40;
    private static final int HIGHEST_STEP = 24;
    private static final int HIGHEST_NOTE = 60;
    private static final int HIGHEST_HEAT = 150;
    private static final int SINGING_HEAT = 100;
    private static final int LID_HEAT = 95;

    private static final int LAST_MINUTE = 9999;
    private static final int LONGEST_ACT = 30;
    private static final int FAR = 120;
    private static final int NEAR = 60;
    private static final int LONGEST_EVENING = 90;

    private static final int COPPER = 1;
    private static final int IRON = 2;
    private static final int ENAMEL = 3;

    // A row is one moment of the choir in one array, so that acts, images and trials are plain copies of it.
    private static final int STOVE = 0;
    private static final int HEAT = STOVE + MOST_KETTLES;
    private static final int FILL = HEAT + MOST_KETTLES;
    private static final int CHALK = FILL + MOST_KETTLES;
    private static final int SUNG = CHALK + MOST_KETTLES;
    private static final int NOTE = SUNG + MOST_KETTLES;
    private static final int READY = NOTE + MOST_KETTLES;
    private static final int MINUTE = READY + MOST_DISHES;
    private static final int ROW = MINUTE + 1;

    private static final int FAULTY_TEXTS = 0;
    private static final int REFUSED_ACTS = 1;
    private static final int REFUSED_HEARD = 2;
    private static final int STATUSES = 3;

    private final Reader reader = new Reader();
    private final Kitchen place = new Kitchen();
    private final int[] now = new int[ROW];
    private final int[] trial = new int[ROW];
    private final int[] status = new int[STATUSES];
    private final Acts acts = new Acts();
    private final Heard heard = new Heard();
    private final Ear ear = new Ear();
    private final Planner planner = new Planner();
    private final Tuner tuner = new Tuner();
    private Image kept;
    private boolean hasImage;

    /** Nothing is ever read of a kettle, stove or dish that isn't there: without any, a row of zeros will do. */
    public KettleChoir() {
    }

    public int feed(int a, int b, int c, int d, int e) {
        if (reader.taped + FED_BYTES > MOST_BYTES) {
            return NONE;
        }
        reader.append(a);
        reader.append(b);
        reader.append(c);
        reader.append(d);
        reader.append(e);
        return reader.taped;
    }

    public int kitchen(int n) throws IllegalArgumentException {
        if (n < 0 || n > reader.taped) {
            throw new IllegalArgumentException("the tape has not so many bytes");
        }
        int fault = reader.read(n);
        if (fault != 0) {
            status[FAULTY_TEXTS]++;
            return fault;
        }
        place.take(reader.draft);
        place.open(now);
        acts.clear();
        heard.clear();
        hasImage = false;
        changed();
        return 0;
    }

    public int fault() {
        return reader.faultPlace;
    }

    public int count(int what) throws NoSuchElementException {
        switch (what) {
            case 0:
                return place.kettles;
            case 1:
                return place.stoves;
            case 2:
                return place.dishes;
            case 3:
                return now[MINUTE];
            case 4:
                return singing();
            case 5:
                return readyDishes(now);
            case 6:
                return lids();
            case 7:
                return lids() & ~singing();
            case 8:
                return thirds();
            case 9:
                return acts.many;
            case 10:
                return heard.many;
            case 11:
                return reader.taped;
            case 12:
                return status[FAULTY_TEXTS];
            case 13:
                return status[REFUSED_ACTS];
            case 14:
                return status[REFUSED_HEARD];
            default:
                throw new NoSuchElementException("no such count");
        }
    }

    public int kettle(int kettle, int what) throws NoSuchElementException {
        needKettle(kettle);
        switch (what) {
            case 0:
                return place.kind[kettle];
            case 1:
                return place.spout[kettle];
            case 2:
                return place.size[kettle];
            case 3:
                return now[FILL + kettle];
            case 4:
                return now[CHALK + kettle];
            case 5:
                return now[HEAT + kettle];
            case 6:
                return now[STOVE + kettle];
            case 7:
                return now[SUNG + kettle];
            case 8:
                return now[NOTE + kettle];
            default:
                throw new NoSuchElementException("a kettle has no such thing");
        }
    }

    public int stove(int stove, int what) throws NoSuchElementException {
        needStove(stove);
        switch (what) {
            case 0:
                return place.power[stove];
            case 1:
                return place.kettleOn(now, stove);
            default:
                throw new NoSuchElementException("a stove has no such thing");
        }
    }

    public int dish(int dish, int i) throws NoSuchElementException {
        needDish(dish);
        if (i == NONE) {
            return place.steps[dish];
        }
        if (i == -2) {
            return now[READY + dish];
        }
        if (i < 0 || i >= place.steps[dish]) {
            throw new NoSuchElementException("no such step");
        }
        return place.step[dish * MOST_STEPS + i];
    }

    public int minutes(int many) {
        if (many < 1 || many > LONGEST_ACT || now[MINUTE] + many > LAST_MINUTE) {
            status[REFUSED_ACTS]++;
            return NONE;
        }
        beginAct();
        for (int m = 0; m < many; m++) {
            place.pass(now);
        }
        return now[MINUTE];
    }

    public boolean put(int kettle, int stove) throws NoSuchElementException {
        needKettle(kettle);
        needStove(stove);
        if (place.kettleOn(now, stove) != NONE) {
            status[REFUSED_ACTS]++;
            return false;
        }
        beginAct();
        now[STOVE + kettle] = stove;
        return true;
    }

    public int lift(int kettle) throws NoSuchElementException {
        needKettle(kettle);
        int stove = now[STOVE + kettle];
        if (stove == NONE) {
            status[REFUSED_ACTS]++;
            return NONE;
        }
        beginAct();
        now[STOVE + kettle] = NONE;
        return stove;
    }

    public int pour(int kettle, int fill) throws NoSuchElementException {
        needKettle(kettle);
        int old = now[FILL + kettle];
        if (fill < 0 || fill > place.size[kettle] || fill == old) {
            status[REFUSED_ACTS]++;
            return NONE;
        }
        beginAct();
        if (fill > 0 && fill > old) {
            now[HEAT + kettle] = now[HEAT + kettle] * old / fill;
        }
        now[FILL + kettle] = fill;
        return now[HEAT + kettle];
    }

    public int scrape(int kettle) throws NoSuchElementException {
        needKettle(kettle);
        int old = now[CHALK + kettle];
        if (now[STOVE + kettle] != NONE || old == 0) {
            status[REFUSED_ACTS]++;
            return NONE;
        }
        beginAct();
        now[CHALK + kettle] = 0;
        return old;
    }

    public int undo() {
        if (acts.many == 0) {
            return NONE;
        }
        acts.pop(now);
        changed();
        return acts.many;
    }

    public int then(int kettle, int minutes) throws NoSuchElementException, IllegalArgumentException {
        needKettle(kettle);
        needFarMinutes(minutes);
        beginTrial();
        for (int m = 1; m <= minutes; m++) {
            place.pass(trial);
        }
        return trial[NOTE + kettle];
    }

    public int sung(int kettle) throws NoSuchElementException {
        needKettle(kettle);
        beginTrial();
        for (int m = 1; m <= FAR; m++) {
            place.pass(trial);
            if (trial[NOTE + kettle] != NONE) {
                return m;
            }
        }
        return NONE;
    }

    public int done(int dish) throws NoSuchElementException {
        needDish(dish);
        beginTrial();
        if (trial[READY + dish] != NONE) {
            return 0;
        }
        for (int m = 1; m <= FAR; m++) {
            place.pass(trial);
            if (trial[READY + dish] != NONE) {
                return m;
            }
        }
        return NONE;
    }

    public int fugue(int many) throws IllegalArgumentException {
        if (many < 1 || many > MOST_KETTLES) {
            throw new IllegalArgumentException("not 1 to 8 kettles");
        }
        beginTrial();
        for (int m = 1; m <= FAR; m++) {
            place.pass(trial);
            if (place.singers >= many) {
                return m;
            }
        }
        return NONE;
    }

    public int quiet() {
        boolean sangAhead = singing() != 0;
        beginTrial();
        for (int m = 1; m <= FAR; m++) {
            place.pass(trial);
            if (sangAhead && place.singers == 0) {
                return m;
            }
            sangAhead = place.singers > 0;
        }
        return NONE;
    }

    public int loudest(int what) throws NoSuchElementException {
        if (what != 0 && what != 1) {
            throw new NoSuchElementException("the loudest minute has no such thing");
        }
        int minute = NONE;
        int most = 0;
        beginTrial();
        for (int m = 1; m <= NEAR; m++) {
            place.pass(trial);
            if (place.singers > most) {
                most = place.singers;
                minute = m;
            }
        }
        return what == 0 ? minute : most;
    }

    public int dry(int kettle) throws NoSuchElementException {
        needKettle(kettle);
        beginTrial();
        if (trial[FILL + kettle] == 0) {
            return 0;
        }
        for (int m = 1; m <= FAR; m++) {
            place.pass(trial);
            if (trial[FILL + kettle] == 0) {
                return m;
            }
        }
        return NONE;
    }

    public int soonest(int dish, int i) throws NoSuchElementException {
        needDish(dish);
        if (i != NONE) {
            needStove(i);
        }
        planner.plan(place, now, dish);
        return i == NONE ? planner.when : planner.best[i];
    }

    public int tuned(int kettle, int note) throws NoSuchElementException, IllegalArgumentException {
        needKettle(kettle);
        if (note < 0 || note > HIGHEST_NOTE) {
            throw new IllegalArgumentException("not a note");
        }
        return tuner.nearestFill(place, now, kettle, note);
    }

    public int chord(int dish) throws NoSuchElementException {
        needDish(dish);
        return tuner.leastCups(place, now, dish);
    }

    public int burner(int kettle, int minutes) throws NoSuchElementException, IllegalArgumentException {
        needKettle(kettle);
        needFarMinutes(minutes);
        for (int power = 1; power <= HIGHEST_POWER; power++) {
            beginTrial();
            for (int m = 1; m <= minutes; m++) {
                place.warm(trial, kettle, power);
                place.voice(trial, kettle);
                if (trial[NOTE + kettle] != NONE) {
                    return power;
                }
            }
        }
        return NONE;
    }

    public int together(int kettle, int other, int power, int steps)
            throws NoSuchElementException, IllegalArgumentException {
        needKettle(kettle);
        needKettle(other);
        if (kettle == other || power < 1 || power > HIGHEST_POWER || steps < 0 || steps > HIGHEST_STEP) {
            throw new IllegalArgumentException("both are one, or not a power, or not steps");
        }
        int minutes = 0;
        beginTrial();
        for (int m = 1; m <= NEAR; m++) {
            int note = burn(kettle, power);
            int otherNote = burn(other, power);
            if (note != NONE && otherNote != NONE && Math.abs(note - otherNote) == steps) {
                minutes++;
            }
            trial[MINUTE]++;
        }
        return minutes;
    }

    public int hear(int minutes, int note) {
        boolean isMinute = minutes >= 1 && minutes <= NEAR;
        boolean isNote = note >= NONE && note <= HIGHEST_NOTE;
        if (heard.many >= MOST_HEARD || !isMinute || !isNote) {
            status[REFUSED_HEARD]++;
            return NONE;
        }
        heard.add(minutes, note);
        changed();
        return heard.many;
    }

    public int chalk(int what) throws NoSuchElementException {
        if (what < 0 || what > 2) {
            throw new NoSuchElementException("the chalk has no such thing");
        }
        if (what == 2) {
            return ear.fitsAsItIs(place, now, heard) ? 1 : 0;
        }
        ear.search(place, now, heard);
        return what == 0 ? ear.many : ear.first;
    }

    public int listen(int what) throws NoSuchElementException {
        if (what != 0 && what != 1) {
            throw new NoSuchElementException("listening has no such thing");
        }
        ear.search(place, now, heard);
        return what == 0 ? ear.minute : ear.choirs;
    }

    public void forget() {
        heard.clear();
        changed();
    }

    public int game(int kettle, int other, int what) throws NoSuchElementException, IllegalArgumentException {
        needKettle(kettle);
        needKettle(other);
        if (what != 0 && what != 1) {
            throw new NoSuchElementException("a game has no such thing");
        }
        if (kettle == other) {
            throw new IllegalArgumentException("both are one");
        }
        int rests = 0;
        int first = NONE;
        boolean bothSing = now[NOTE + kettle] != NONE && now[NOTE + other] != NONE;
        for (int couple = 0; bothSing && couple < 4; couple++) {
            int mine = couple / 2;
            int his = couple % 2;
            if (isBest(kettle, mine, other, his) && isBest(other, his, kettle, mine)) {
                first = rests == 0 ? 10 * mine + his : first;
                rests++;
            }
        }
        return what == 0 ? rests : first;
    }

    public int evening(int seed, int n, int what) throws NoSuchElementException, IllegalArgumentException {
        if (what < 0 || what > 2) {
            throw new NoSuchElementException("an evening has no such thing");
        }
        if (n < 0 || n > LONGEST_EVENING) {
            throw new IllegalArgumentException("not 0 to 90 minutes");
        }
        int state = seed;
        int loud = 0;
        int highest = 0;
        beginTrial();
        for (int m = 0; m < n; m++) {
            if (place.kettles > 0) {
                state = nextSeed(state);
                int kettle = draw(state, place.kettles);
                state = nextSeed(state);
                meddle(kettle, draw(state, 4));
            }
            place.pass(trial);
            loud += place.singers > 0 ? 1 : 0;
            highest = Math.max(highest, highestNote(trial));
        }
        if (what == 0) {
            return Integer.bitCount(readyDishes(trial));
        }
        return what == 1 ? loud : highest;
    }

    public void image() {
        if (kept == null) {
            kept = new Image();
        }
        kept.keep(now, acts, heard, status);
        hasImage = true;
    }

    public boolean restore() {
        if (!hasImage || kept == null) {
            return false;
        }
        kept.giveBack(now, acts, heard, status);
        changed();
        return true;
    }

    private void needKettle(int kettle) {
        if (kettle < 0 || kettle >= place.kettles) {
            throw new NoSuchElementException("no such kettle");
        }
    }

    private void needStove(int stove) {
        if (stove < 0 || stove >= place.stoves) {
            throw new NoSuchElementException("no such stove");
        }
    }

    private void needDish(int dish) {
        if (dish < 0 || dish >= place.dishes) {
            throw new NoSuchElementException("no such dish");
        }
    }

    private void needFarMinutes(int minutes) {
        if (minutes < 1 || minutes > FAR) {
            throw new IllegalArgumentException("not 1 to 120 minutes");
        }
    }

    private void beginAct() {
        acts.push(now);
        changed();
    }

    /** What was searched out holds only for the row, the kitchen and the heard that it was searched in. */
    private void changed() {
        planner.known = NONE;
        ear.known = false;
    }

    private void beginTrial() {
        System.arraycopy(now, 0, trial, 0, ROW);
    }

    private int singing() {
        int bits = 0;
        for (int k = 0; k < place.kettles; k++) {
            bits |= now[NOTE + k] != NONE ? 1 << k : 0;
        }
        return bits;
    }

    private int readyDishes(int[] row) {
        int bits = 0;
        for (int d = 0; d < place.dishes; d++) {
            bits |= row[READY + d] != NONE ? 1 << d : 0;
        }
        return bits;
    }

    private int lids() {
        int bits = 0;
        for (int k = 0; k < place.kettles; k++) {
            bits |= now[HEAT + k] >= LID_HEAT ? 1 << k : 0;
        }
        return bits;
    }

    private int thirds() {
        int couples = 0;
        for (int k = 0; k < place.kettles; k++) {
            for (int other = 0; other < k; other++) {
                int apart = apart(k, other);
                couples += apart == 3 || apart == 4 ? 1 : 0;
            }
        }
        return couples;
    }

    /** How far apart two sang in the minute ahead; NONE, if one of them didn't. */
    private int apart(int kettle, int other) {
        int note = now[NOTE + kettle];
        int otherNote = now[NOTE + other];
        return note == NONE || otherNote == NONE ? NONE : Math.abs(note - otherNote);
    }

    /** One minute of one kettle of the trial on a stove of its own: the note, or NONE. */
    private int burn(int kettle, int power) {
        place.warm(trial, kettle, power);
        place.voice(trial, kettle);
        int note = trial[NOTE + kettle];
        if (trial[MINUTE] % 3 == 0) {
            place.boil(trial, kettle);
        }
        return note;
    }

    private boolean isBest(int kettle, int choice, int other, int otherChoice) {
        return gain(kettle, choice, other, otherChoice) >= gain(kettle, 1 - choice, other, otherChoice);
    }

    private int gain(int kettle, int choice, int other, int otherChoice) {
        if (choice == 0) {
            return 0;
        }
        for (int k = 0; k < place.kettles; k++) {
            boolean lifted = k == other && otherChoice == 0;
            int apart = apart(kettle, k);
            if (!lifted && (apart == 1 || apart == 2)) {
                return -4;
            }
        }
        return 6;
    }

    private int nextSeed(int seed) {
        return seed * 1103515245 + 12345;
    }

    private int draw(int seed, int n) {
        return n > 0 ? (seed >>> 16 & 0x7fff) % n : 0;
    }

    /** What the draw of 4 does to a kettle of the trial. */
    private void meddle(int kettle, int deed) {
        if (deed == 0) {
            trial[STOVE + kettle] = NONE;
        } else if (deed == 1 && trial[STOVE + kettle] == NONE) {
            trial[STOVE + kettle] = freeStove();
        }
    }

    private int freeStove() {
        for (int s = 0; s < place.stoves; s++) {
            if (place.kettleOn(trial, s) == NONE) {
                return s;
            }
        }
        return NONE;
    }

    private int highestNote(int[] row) {
        int highest = 0;
        for (int k = 0; k < place.kettles; k++) {
            highest = Math.max(highest, row[NOTE + k]);
        }
        return highest;
    }

    /** What a text tells, and how a minute goes by in a row of it. */
    private static final class Kitchen {
        final int[] kind = new int[MOST_KETTLES];
        final int[] spout = new int[MOST_KETTLES];
        final int[] size = new int[MOST_KETTLES];
        final int[] firstFill = new int[MOST_KETTLES];
        final int[] firstChalk = new int[MOST_KETTLES];
        final int[] power = new int[MOST_STOVES];
        final int[] steps = new int[MOST_DISHES];
        final int[] step = new int[MOST_DISHES * MOST_STEPS];
        final Rule rule = new Rule();
        final int[] values = new int[Rule.VALUES];
        int kettles;
        int stoves;
        int dishes;
        /** The notes sung in the latest minute that pass() let go by, a bit each. */
        long notes;
        int singers;

        void clear() {
            kettles = 0;
            stoves = 0;
            dishes = 0;
            rule.length = 0;
        }

        void take(Kitchen other) {
            kettles = other.kettles;
            stoves = other.stoves;
            dishes = other.dishes;
            System.arraycopy(other.kind, 0, kind, 0, MOST_KETTLES);
            System.arraycopy(other.spout, 0, spout, 0, MOST_KETTLES);
            System.arraycopy(other.size, 0, size, 0, MOST_KETTLES);
            System.arraycopy(other.firstFill, 0, firstFill, 0, MOST_KETTLES);
            System.arraycopy(other.firstChalk, 0, firstChalk, 0, MOST_KETTLES);
            System.arraycopy(other.power, 0, power, 0, MOST_STOVES);
            System.arraycopy(other.steps, 0, steps, 0, MOST_DISHES);
            System.arraycopy(other.step, 0, step, 0, MOST_DISHES * MOST_STEPS);
            rule.take(other.rule);
        }

        /** Makes a row what it is at first. */
        void open(int[] row) {
            Arrays.fill(row, 0);
            for (int k = 0; k < MOST_KETTLES; k++) {
                row[STOVE + k] = NONE;
                row[NOTE + k] = NONE;
            }
            for (int k = 0; k < kettles; k++) {
                row[FILL + k] = firstFill[k];
                row[CHALK + k] = firstChalk[k];
            }
            for (int d = 0; d < MOST_DISHES; d++) {
                row[READY + d] = NONE;
            }
        }

        int kettleOn(int[] row, int stove) {
            for (int k = 0; k < kettles; k++) {
                if (row[STOVE + k] == stove) {
                    return k;
                }
            }
            return NONE;
        }

        void pass(int[] row) {
            for (int k = 0; k < kettles; k++) {
                int stove = row[STOVE + k];
                boolean onStove = stove >= 0 && stove < stoves;
                warm(row, k, onStove ? power[stove] : 0);
            }
            sing(row);
            serve(row);
            if (row[MINUTE] % 3 == 0) {
                for (int k = 0; k < kettles; k++) {
                    boil(row, k);
                }
            }
            cook(row);
            row[MINUTE]++;
        }

        /** A minute's heat of one kettle; no stove has power 0, so that stands for none. */
        void warm(int[] row, int k, int strength) {
            if (strength == 0) {
                int loss = kind[k] == ENAMEL ? 1 : 2;
                row[HEAT + k] = Math.max(0, row[HEAT + k] - loss);
                return;
            }
            int mass = row[FILL + k] + (kind[k] == IRON ? 10 : 5);
            int gain = mass > 0 ? Math.max(1, 10 * strength / mass) : 1;
            row[HEAT + k] = Math.min(HIGHEST_HEAT, row[HEAT + k] + gain);
        }

        private void sing(int[] row) {
            notes = 0;
            singers = 0;
            for (int k = 0; k < kettles; k++) {
                voice(row, k);
                int note = row[NOTE + k];
                if (note != NONE) {
                    notes |= 1L << note;
                    singers++;
                }
            }
        }

        void voice(int[] row, int k) {
            row[NOTE + k] = NONE;
            if (row[HEAT + k] >= SINGING_HEAT && couldSing(row, k)) {
                row[NOTE + k] = noteOf(k, row[FILL + k], row[HEAT + k], row[CHALK + k]);
                row[SUNG + k]++;
            }
        }

        /** Whether it would sing, were it hot enough. */
        boolean couldSing(int[] row, int k) {
            int fill = row[FILL + k];
            return fill >= 1 && 10 * fill <= 9 * size[k] && row[CHALK + k] != HIGHEST_CHALK;
        }

        int noteOf(int k, int fill, int heat, int chalky) {
            int note = spout[k] + (size[k] - fill) / 5 + (heat - SINGING_HEAT) / 10 - chalky / 3;
            if (kind[k] == COPPER) {
                note--;
            }
            if (note < 0) {
                return 0;
            }
            return note > HIGHEST_NOTE ? HIGHEST_NOTE : note;
        }

        private void serve(int[] row) {
            for (int d = 0; d < dishes; d++) {
                if (row[READY + d] == NONE && sounds(d)) {
                    row[READY + d] = row[MINUTE];
                }
            }
        }

        /** Whether the notes have the chord: a bit that is left in roots is a note with all steps above it. */
        private boolean sounds(int d) {
            long roots = notes;
            for (int i = 0; i < steps[d]; i++) {
                roots &= notes >>> step[d * MOST_STEPS + i];
            }
            return roots != 0;
        }

        void boil(int[] row, int k) {
            if (row[NOTE + k] == NONE) {
                return;
            }
            row[FILL + k]--;
            if (row[FILL + k] == 0) {
                row[CHALK + k] = Math.min(HIGHEST_CHALK, row[CHALK + k] + 1);
            }
        }

        private void cook(int[] row) {
            if (rule.length == 0) {
                return;
            }
            for (int k = 0; k < kettles; k++) {
                if (row[STOVE + k] != NONE) {
                    look(row, k);
                    if (rule.gives(values) > 0) {
                        row[STOVE + k] = NONE;
                    }
                }
            }
        }

        private void look(int[] row, int k) {
            int note = row[NOTE + k];
            boolean third = note != NONE && (notes >>> note + 3 & 3) != 0;
            values[Rule.NOTE_VALUE] = Math.max(0, note);
            values[Rule.SUNG_VALUE] = row[SUNG + k];
            values[Rule.THIRD_VALUE] = third ? 1 : 0;
            values[Rule.HEAT_VALUE] = row[HEAT + k];
            values[Rule.FILL_VALUE] = row[FILL + k];
            values[Rule.CHALK_VALUE] = row[CHALK + k];
            values[Rule.SINGERS_VALUE] = singers;
        }
    }

    /** An EXPR, its parts ahead of what joins them, so that it is worked out without recursion. */
    private static final class Rule {
        static final int NOTE_VALUE = 0;
        static final int SUNG_VALUE = 1;
        static final int THIRD_VALUE = 2;
        static final int HEAT_VALUE = 3;
        static final int FILL_VALUE = 4;
        static final int CHALK_VALUE = 5;
        static final int SINGERS_VALUE = 6;
        static final int VALUES = 7;

        // A code below VALUE is a NUMBER itself: a NUMBER has 4 digits at most.
        static final int VALUE = 10000;
        static final int NOT = VALUE + VALUES;
        static final int OR = NOT + 1;
        static final int AND = NOT + 2;
        static final int LESS = NOT + 3;
        static final int SAME = NOT + 4;
        static final int PLUS = NOT + 5;
        static final int MINUS = NOT + 6;
        static final int TIMES = NOT + 7;
        static final int OVER = NOT + 8;

        // Five parts can wait in each of the 6 EXPRs that stand open at once, and one is at hand: 31.
        static final int MOST_WAITING = 40;

        final int[] code = new int[MOST_BYTES];
        final int[] stack = new int[MOST_WAITING];
        int length;

        void add(int op) {
            if (length < MOST_BYTES) {
                code[length] = op;
                length++;
            }
        }

        void take(Rule other) {
            length = other.length;
            System.arraycopy(other.code, 0, code, 0, MOST_BYTES);
        }

        int gives(int[] values) {
            int top = 0;
            for (int i = 0; i < length; i++) {
                int op = code[i];
                if (op < NOT) {
                    if (top < MOST_WAITING) {
                        stack[top] = op < VALUE ? op : values[op - VALUE];
                        top++;
                    }
                } else if (op == NOT) {
                    if (top > 0) {
                        stack[top - 1] = stack[top - 1] == 0 ? 1 : 0;
                    }
                } else if (top > 1) {
                    top--;
                    stack[top - 1] = joined(op, stack[top - 1], stack[top]);
                }
            }
            return top > 0 ? stack[0] : 0;
        }

        private int joined(int op, int left, int right) {
            switch (op) {
                case OR:
                    return left != 0 || right != 0 ? 1 : 0;
                case AND:
                    return left != 0 && right != 0 ? 1 : 0;
                case LESS:
                    return left < right ? 1 : 0;
                case SAME:
                    return left == right ? 1 : 0;
                case PLUS:
                    return left + right;
                case MINUS:
                    return left - right;
                case TIMES:
                    return left * right;
                default:
                    return right == 0 ? 0 : left / right;
            }
        }
    }

    /** The tape, and a KITCHEN read from it, token by token, up to the first fault. */
    private static final class Reader {
        static final int END = 0;
        static final int WORD = 1;
        static final int NUMBER = 2;
        static final int SIGN = 3;
        static final int BLANK = 4;
        static final int NOTHING = 5;

        static final int MISPLACED = 1;
        static final int TOO_MUCH = 2;
        static final int UNKNOWN = 3;
        static final int TWICE = 4;
        static final int SECOND_RULE = 5;

        static final int MOST_DIGITS = 4;
        static final int MOST_EXPRS = 6;
        static final int MOST_NOTS = 6;

        final byte[] tape = new byte[MOST_BYTES];
        final Kitchen draft = new Kitchen();
        int taped;
        int faultPlace = NONE;
        private int end;
        private int at;
        private int token;
        private int start;
        private int number;
        private boolean hasRule;
        private int fault;

        void append(int four) {
            for (int shift = 24; shift >= 0 && taped < MOST_BYTES; shift -= 8) {
                tape[taped] = (byte) (four >> shift);
                taped++;
            }
        }

        /** Reads the first n bytes into the draft, and empties the tape: 0, or the fault. */
        int read(int n) {
            end = Math.min(n, taped);
            taped = 0;
            at = 0;
            fault = 0;
            faultPlace = NONE;
            hasRule = false;
            draft.clear();
            advance();
            for (int i = 0; i < MOST_BYTES && fault == 0 && token != END; i++) {
                line();
                expect(';');
            }
            return fault;
        }

        private void line() {
            int kind = kettleWord();
            if (kind != NONE) {
                kettleLine(kind);
            } else if (isWord("stove")) {
                stoveLine();
            } else if (isWord("dish")) {
                dishLine();
            } else if (isWord("lifts")) {
                liftsLine();
            } else {
                fail(MISPLACED);
            }
        }

        private void kettleLine(int kind) {
            int k = draft.kettles;
            if (k >= MOST_KETTLES) {
                fail(TOO_MUCH);
                return;
            }
            advance();
            draft.kind[k] = kind;
            draft.spout[k] = numberOf(1, HIGHEST_SPOUT);
            draft.size[k] = numberOf(1, HIGHEST_SIZE);
            draft.firstFill[k] = numberOf(0, draft.size[k]);
            draft.firstChalk[k] = numberOf(0, HIGHEST_CHALK);
            draft.kettles++;
        }

        private void stoveLine() {
            int s = draft.stoves;
            if (s >= MOST_STOVES) {
                fail(TOO_MUCH);
                return;
            }
            advance();
            draft.power[s] = numberOf(1, HIGHEST_POWER);
            draft.stoves++;
        }

        private void dishLine() {
            int d = draft.dishes;
            if (d >= MOST_DISHES) {
                fail(TOO_MUCH);
                return;
            }
            advance();
            draft.steps[d] = 0;
            step(d);
            for (int i = 0; i < MOST_BYTES && fault == 0 && token == NUMBER; i++) {
                step(d);
            }
            draft.dishes++;
        }

        private void step(int d) {
            int have = draft.steps[d];
            if (token == NUMBER && have >= MOST_STEPS) {
                fail(TOO_MUCH);
            } else if (needNumber(1, HIGHEST_STEP) && hasStep(d)) {
                fail(TWICE);
            } else if (fault == 0 && have < MOST_STEPS) {
                draft.step[d * MOST_STEPS + have] = number;
                draft.steps[d]++;
                advance();
            }
        }

        private boolean hasStep(int d) {
            for (int i = 0; i < draft.steps[d]; i++) {
                if (draft.step[d * MOST_STEPS + i] == number) {
                    return true;
                }
            }
            return false;
        }

        private void liftsLine() {
            if (hasRule) {
                fail(SECOND_RULE);
                return;
            }
            hasRule = true;
            advance();
            expr(0);
        }

        /** An EXPR that stands within so many others. */
        private void expr(int depth) {
            if (depth >= MOST_EXPRS) {
                fail(token == NUMBER || token == WORD || isSign('(') ? TOO_MUCH : MISPLACED);
                return;
            }
            both(depth);
            for (int i = 0; i < MOST_BYTES && isWord("or"); i++) {
                advance();
                both(depth);
                draft.rule.add(Rule.OR);
            }
        }

        private void both(int depth) {
            test(depth);
            for (int i = 0; i < MOST_BYTES && isWord("and"); i++) {
                advance();
                test(depth);
                draft.rule.add(Rule.AND);
            }
        }

        private void test(int depth) {
            int nots = 0;
            for (; nots < MOST_NOTS && isWord("not"); nots++) {
                advance();
            }
            if (nots == MOST_NOTS && isWord("not")) {
                fail(TOO_MUCH);
                return;
            }
            sum(depth);
            if (isSign('<') || isSign('=')) {
                int op = isSign('<') ? Rule.LESS : Rule.SAME;
                advance();
                sum(depth);
                draft.rule.add(op);
            }
            for (int i = 0; i < nots; i++) {
                draft.rule.add(Rule.NOT);
            }
        }

        private void sum(int depth) {
            product(depth);
            for (int i = 0; i < MOST_BYTES && (isSign('+') || isSign('-')); i++) {
                int op = isSign('+') ? Rule.PLUS : Rule.MINUS;
                advance();
                product(depth);
                draft.rule.add(op);
            }
        }

        private void product(int depth) {
            part(depth);
            for (int i = 0; i < MOST_BYTES && (isSign('*') || isSign('/')); i++) {
                int op = isSign('*') ? Rule.TIMES : Rule.OVER;
                advance();
                part(depth);
                draft.rule.add(op);
            }
        }

        private void part(int depth) {
            if (token == NUMBER) {
                draft.rule.add(numberOf(0, Rule.VALUE - 1));
            } else if (token == WORD) {
                int value = valueWord();
                if (value == NONE) {
                    fail(UNKNOWN);
                    return;
                }
                draft.rule.add(Rule.VALUE + value);
                advance();
            } else {
                expect('(');
                if (fault == 0) {
                    expr(depth + 1);
                    expect(')');
                }
            }
        }

        private int kettleWord() {
            if (isWord("tin")) {
                return 0;
            }
            if (isWord("copper")) {
                return COPPER;
            }
            if (isWord("iron")) {
                return IRON;
            }
            return isWord("enamel") ? ENAMEL : NONE;
        }

        private int valueWord() {
            if (isWord("note")) {
                return Rule.NOTE_VALUE;
            }
            if (isWord("sung")) {
                return Rule.SUNG_VALUE;
            }
            if (isWord("third")) {
                return Rule.THIRD_VALUE;
            }
            if (isWord("heat")) {
                return Rule.HEAT_VALUE;
            }
            if (isWord("fill")) {
                return Rule.FILL_VALUE;
            }
            if (isWord("chalk")) {
                return Rule.CHALK_VALUE;
            }
            return isWord("singers") ? Rule.SINGERS_VALUE : NONE;
        }

        /** Goes past a NUMBER from low to high that must stand here. */
        private int numberOf(int low, int high) {
            if (!needNumber(low, high)) {
                return 0;
            }
            int told = number;
            advance();
            return told;
        }

        private boolean needNumber(int low, int high) {
            if (token != NUMBER) {
                fail(MISPLACED);
            } else if (at - start > MOST_DIGITS || number < low || number > high) {
                fail(TOO_MUCH);
            }
            return fault == 0;
        }

        /** Goes past a sign that must stand here. */
        private void expect(char sign) {
            if (isSign(sign)) {
                advance();
            } else {
                fail(MISPLACED);
            }
        }

        /** The first fault stays: behind it the text is at its end, so that no more is read. */
        private void fail(int which) {
            if (fault == 0) {
                fault = which;
                faultPlace = start;
            }
            token = END;
        }

        private boolean isWord(String word) {
            if (token != WORD || at - start != word.length()) {
                return false;
            }
            for (int i = 0; i < word.length() && start + i < end; i++) {
                if (tape[start + i] != word.charAt(i)) {
                    return false;
                }
            }
            return true;
        }

        private boolean isSign(char sign) {
            return token == SIGN && start < end && tape[start] == sign;
        }

        private void advance() {
            if (fault != 0) {
                return;
            }
            while (at < end && sortAt(at) == BLANK) {
                at++;
            }
            start = at;
            number = 0;
            token = sortAt(at);
            if (token == WORD) {
                while (at < end && sortAt(at) == WORD) {
                    at++;
                }
            } else if (token == NUMBER) {
                while (at < end && sortAt(at) == NUMBER) {
                    // Digits too many don't count, so that it can't wrap to a number that is as told.
                    number = at - start < MOST_DIGITS ? 10 * number + tape[at] - '0' : number;
                    at++;
                }
            } else if (token != END) {
                at++;
            }
        }

        private int sortAt(int i) {
            if (i < 0 || i >= end) {
                return END;
            }
            int b = tape[i];
            if (b >= 'a' && b <= 'z') {
                return WORD;
            }
            if (b >= '0' && b <= '9') {
                return NUMBER;
            }
            switch (b) {
                case ' ':
                case '\n':
                    return BLANK;
                case ';':
                case '(':
                case ')':
                case '+':
                case '-':
                case '*':
                case '/':
                case '<':
                case '=':
                    return SIGN;
                default:
                    return NOTHING;
            }
        }
    }

    /** The rows as they were ahead of the latest acts, round and round in one array. */
    private static final class Acts {
        final int[] rows = new int[MOST_ACTS * ROW];
        private int first;
        int many;

        void clear() {
            first = 0;
            many = 0;
        }

        void push(int[] row) {
            if (many == MOST_ACTS) {
                first = (first + 1) % MOST_ACTS;
                many--;
            }
            System.arraycopy(row, 0, rows, (first + many) % MOST_ACTS * ROW, ROW);
            many++;
        }

        void pop(int[] row) {
            if (many > 0) {
                many--;
                System.arraycopy(rows, (first + many) % MOST_ACTS * ROW, row, 0, ROW);
            }
        }

        void take(Acts other) {
            System.arraycopy(other.rows, 0, rows, 0, MOST_ACTS * ROW);
            first = other.first;
            many = other.many;
        }
    }

    /** What is heard: in which minute which note, or NONE. */
    private static final class Heard {
        final int[] minute = new int[MOST_HEARD];
        final int[] note = new int[MOST_HEARD];
        int many;

        void clear() {
            many = 0;
        }

        void add(int when, int what) {
            if (many < MOST_HEARD) {
                minute[many] = when;
                note[many] = what;
                many++;
            }
        }

        void take(Heard other) {
            System.arraycopy(other.minute, 0, minute, 0, MOST_HEARD);
            System.arraycopy(other.note, 0, note, 0, MOST_HEARD);
            many = other.many;
        }
    }

    private static final class Image {
        final int[] row = new int[ROW];
        final Acts acts = new Acts();
        final Heard heard = new Heard();
        final int[] status = new int[STATUSES];

        void keep(int[] fromRow, Acts fromActs, Heard fromHeard, int[] fromStatus) {
            System.arraycopy(fromRow, 0, row, 0, ROW);
            acts.take(fromActs);
            heard.take(fromHeard);
            System.arraycopy(fromStatus, 0, status, 0, STATUSES);
        }

        void giveBack(int[] toRow, Acts toActs, Heard toHeard, int[] toStatus) {
            System.arraycopy(row, 0, toRow, 0, ROW);
            toActs.take(acts);
            toHeard.take(heard);
            System.arraycopy(status, 0, toStatus, 0, STATUSES);
        }
    }

    /** Searches by which chalk of which kettle all that is heard would be so, and when these sound unlike. */
    private static final class Ear {
        static final int MOST_CHALKS = MOST_KETTLES * HIGHEST_CHALK;

        private final int[] trial = new int[ROW];
        /** The notes sung in each minute from 1 to NEAR, a bit each. */
        private final long[] choir = new long[NEAR + 1];
        private final int[] unlike = new int[NEAR + 1];
        private long[] unlikeChoirs;
        boolean known;
        int many;
        int first;
        int minute;
        int choirs;

        boolean fitsAsItIs(Kitchen place, int[] now, Heard heard) {
            System.arraycopy(now, 0, trial, 0, ROW);
            return fits(place, heard);
        }

        void search(Kitchen place, int[] now, Heard heard) {
            if (known) {
                return;
            }
            known = true;
            many = 0;
            first = NONE;
            Arrays.fill(unlike, 0);
            for (int k = 0; k < place.kettles; k++) {
                for (int c = 0; c <= HIGHEST_CHALK; c++) {
                    System.arraycopy(now, 0, trial, 0, ROW);
                    trial[CHALK + k] = c;
                    if (c != now[CHALK + k] && fits(place, heard)) {
                        first = many == 0 ? 10 * k + c : first;
                        many++;
                        collect();
                    }
                }
            }
            chooseMinute();
        }

        /** Lets the trial sing on, and holds it against what is heard. */
        private boolean fits(Kitchen place, Heard heard) {
            for (int m = 1; m <= NEAR; m++) {
                place.pass(trial);
                choir[m] = place.notes;
            }
            for (int i = 0; i < heard.many; i++) {
                int note = heard.note[i];
                long notes = choir[heard.minute[i]];
                boolean isSo = note == NONE ? notes == 0 : (notes >>> note & 1) == 1;
                if (!isSo) {
                    return false;
                }
            }
            return true;
        }

        /** Keeps the choir of each minute, if it is unlike all that are kept of that minute. */
        private void collect() {
            if (unlikeChoirs == null) {
                unlikeChoirs = new long[(NEAR + 1) * MOST_CHALKS];
            }
            for (int m = 1; m <= NEAR; m++) {
                int from = m * MOST_CHALKS;
                boolean isNew = unlike[m] < MOST_CHALKS;
                for (int i = 0; isNew && i < unlike[m]; i++) {
                    isNew = unlikeChoirs[from + i] != choir[m];
                }
                if (isNew) {
                    unlikeChoirs[from + unlike[m]] = choir[m];
                    unlike[m]++;
                }
            }
        }

        private void chooseMinute() {
            minute = NONE;
            choirs = 0;
            for (int m = 1; m <= NEAR; m++) {
                if (unlike[m] > choirs) {
                    choirs = unlike[m];
                    minute = m;
                }
            }
        }
    }

    /** Searches how kettles should stand on stoves so that a dish is ready soonest. */
    private static final class Planner {
        private final int[] trial = new int[ROW];
        private final int[] tried = new int[MOST_STOVES];
        final int[] best = new int[MOST_STOVES];
        int when;
        /** The dish that when and best are of; NONE: they are of none. */
        int known = NONE;

        void plan(Kitchen place, int[] now, int dish) {
            if (known == dish) {
                return;
            }
            known = dish;
            when = NONE;
            Arrays.fill(best, NONE);
            if (now[READY + dish] == NONE) {
                search(place, now, dish);
            }
        }

        /** Rows come in order, and a later one must be sooner: so each is only followed up to the minute ahead. */
        private void search(Kitchen place, int[] now, int dish) {
            int choices = place.kettles + 1;
            int rows = 1;
            for (int s = 0; s < place.stoves; s++) {
                rows *= choices;
            }
            int last = NEAR;
            for (int n = 0; n < rows && last > 0; n++) {
                if (choose(n, place.stoves, choices)) {
                    setOut(place, now);
                    int ready = readyMinute(place, dish, last);
                    if (ready != NONE) {
                        when = ready;
                        last = ready - 1;
                        System.arraycopy(tried, 0, best, 0, place.stoves);
                    }
                }
            }
        }

        /** The n-th row, the first stove having the highest digit of n; false, if a kettle is in it twice. */
        private boolean choose(int n, int stoves, int choices) {
            int rest = n;
            int used = 0;
            for (int s = stoves - 1; s >= 0; s--) {
                tried[s] = choices > 0 ? rest % choices - 1 : NONE;
                rest = choices > 0 ? rest / choices : 0;
                int bit = tried[s] == NONE ? 0 : 1 << tried[s];
                if ((used & bit) != 0) {
                    return false;
                }
                used |= bit;
            }
            return true;
        }

        private void setOut(Kitchen place, int[] now) {
            System.arraycopy(now, 0, trial, 0, ROW);
            for (int k = 0; k < place.kettles; k++) {
                trial[STOVE + k] = NONE;
            }
            for (int s = 0; s < place.stoves; s++) {
                if (tried[s] != NONE) {
                    trial[STOVE + tried[s]] = s;
                }
            }
        }

        /** One off the stoves only cools, and one that is too full, empty or chalky stays so: such never sing. */
        private boolean enoughVoices(Kitchen place, int dish) {
            int voices = 0;
            for (int k = 0; k < place.kettles; k++) {
                boolean hot = trial[STOVE + k] != NONE || trial[HEAT + k] > SINGING_HEAT;
                voices += hot && place.couldSing(trial, k) ? 1 : 0;
            }
            return voices > place.steps[dish];
        }

        private int readyMinute(Kitchen place, int dish, int last) {
            for (int m = 1; m <= last && enoughVoices(place, dish); m++) {
                place.pass(trial);
                if (trial[READY + dish] != NONE) {
                    return m;
                }
            }
            return NONE;
        }
    }

    /** Fills by which kettles would sing a note, were they just hot enough. */
    private static final class Tuner {
        static final int MOST_NOTES = MOST_STEPS + 1;
        static final int TOO_DEAR = 1000000;

        private final int[] note = new int[MOST_NOTES];
        private final int[] cost = new int[MOST_NOTES];
        /** By each set of the chord's notes the least cups by which kettles sing them, each one of them. */
        private final int[] cups = new int[1 << MOST_NOTES];

        int nearestFill(Kitchen place, int[] row, int kettle, int want) {
            int chalky = row[CHALK + kettle];
            if (chalky == HIGHEST_CHALK) {
                // It never sings, so no fill gives it a note; the chord goes by this, too.
                return NONE;
            }
            int nearest = NONE;
            int least = TOO_DEAR;
            for (int fill = 1; fill <= 9 * place.size[kettle] / 10; fill++) {
                int far = Math.abs(fill - row[FILL + kettle]);
                if (far < least && place.noteOf(kettle, fill, SINGING_HEAT, chalky) == want) {
                    nearest = fill;
                    least = far;
                }
            }
            return nearest;
        }

        int leastCups(Kitchen place, int[] row, int dish) {
            int least = TOO_DEAR;
            int notes = place.steps[dish] + 1;
            for (int root = 0; root <= HIGHEST_NOTE; root++) {
                note[0] = root;
                for (int i = 1; i < notes && i < MOST_NOTES; i++) {
                    note[i] = root + place.step[dish * MOST_STEPS + i - 1];
                }
                least = Math.min(least, cupsFor(place, row, Math.min(notes, MOST_NOTES)));
            }
            return least == TOO_DEAR ? NONE : least;
        }

        private int cupsFor(Kitchen place, int[] row, int notes) {
            int all = (1 << notes) - 1;
            Arrays.fill(cups, TOO_DEAR);
            cups[0] = 0;
            for (int k = 0; k < place.kettles; k++) {
                for (int i = 0; i < notes; i++) {
                    cost[i] = cupsTo(place, row, k, note[i]);
                }
                join(notes);
            }
            return cups[all];
        }

        private int cupsTo(Kitchen place, int[] row, int kettle, int want) {
            int fill = want > HIGHEST_NOTE ? NONE : nearestFill(place, row, kettle, want);
            return fill == NONE ? TOO_DEAR : Math.abs(fill - row[FILL + kettle]);
        }

        /** One kettle more: the largest sets come first, so that it adds no more than one note to any. */
        private void join(int notes) {
            for (int set = (1 << notes) - 1; set >= 0; set--) {
                for (int i = 0; i < notes; i++) {
                    int larger = set | 1 << i;
                    if (larger != set) {
                        cups[larger] = Math.min(cups[larger], cups[set] + cost[i]);
                    }
                }
            }
        }
    }
}
