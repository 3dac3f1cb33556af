import java.util.ArrayDeque;
import java.util.ArrayList;
import java.util.Arrays;
import java.util.Deque;
import java.util.HashSet;
import java.util.List;
import java.util.NoSuchElementException;
import java.util.Set;
import java.util.TreeSet;

/**
 * The document once more, written straight from its words, with whole copies of everything and no search cut short,
 * so that ModelTest can hold the class against it.
 */
final class Model {
    static final int NONE = -1;

    static final class Pot {
        String kind;
        int spout;
        int size;
        int fill;
        int chalk;
        int heat;
        int stove = NONE;
        int sung;
        int note = NONE;

        Pot copy() {
            Pot p = new Pot();
            p.kind = kind;
            p.spout = spout;
            p.size = size;
            p.fill = fill;
            p.chalk = chalk;
            p.heat = heat;
            p.stove = stove;
            p.sung = sung;
            p.note = note;
            return p;
        }

        boolean fits() {
            return fill >= 1 && fill * 10 <= size * 9 && chalk != 9;
        }

        int noteAt(int cups, int hot) {
            int n = spout + (size - cups) / 5 + (hot - 100) / 10 - chalk / 3 - (kind.equals("copper") ? 1 : 0);
            return n < 0 ? 0 : n > 60 ? 60 : n;
        }

        void heatBy(int power) {
            int gain = 10 * power / (fill + (kind.equals("iron") ? 10 : 5));
            heat = Math.min(150, heat + Math.max(gain, 1));
        }

        void cool() {
            heat = Math.max(0, heat - (kind.equals("enamel") ? 1 : 2));
        }

        void sing() {
            boolean sings = heat >= 100 && fits();
            note = sings ? noteAt(fill, heat) : NONE;
            sung += sings ? 1 : 0;
        }

        void boilOff() {
            if (note != NONE) {
                fill--;
                chalk = fill == 0 ? Math.min(9, chalk + 1) : chalk;
            }
        }
    }

    static final class Now {
        final List<Pot> pots = new ArrayList<>();
        int[] ready = {};
        int minute;

        Now copy() {
            Now n = new Now();
            for (Pot p : pots) {
                n.pots.add(p.copy());
            }
            n.ready = ready.clone();
            n.minute = minute;
            return n;
        }

        Pot on(int stove) {
            for (Pot p : pots) {
                if (p.stove == stove) {
                    return p;
                }
            }
            return null;
        }

        Set<Integer> choir() {
            Set<Integer> notes = new TreeSet<>();
            for (Pot p : pots) {
                if (p.note != NONE) {
                    notes.add(p.note);
                }
            }
            return notes;
        }

        int singers() {
            int n = 0;
            for (Pot p : pots) {
                n += p.note != NONE ? 1 : 0;
            }
            return n;
        }
    }

    interface Expr {
        int of(Now now, Pot pot);
    }

    static final class Fault extends Exception {
        private static final long serialVersionUID = 1;
        final int code;
        final int place;

        Fault(int code, int place) {
            this.code = code;
            this.place = place;
        }
    }

    static final class Token {
        final String text;
        final int place;

        Token(String text, int place) {
            this.text = text;
            this.place = place;
        }

        boolean isNumber() {
            return text.matches("[0-9]+");
        }

        boolean isWord() {
            return text.matches("[a-z]+");
        }
    }

    /** A whole kitchen as a text tells it. */
    static final class Text {
        final List<Token> tokens = new ArrayList<>();
        final List<Pot> pots = new ArrayList<>();
        final List<Integer> powers = new ArrayList<>();
        final List<List<Integer>> dishes = new ArrayList<>();
        Expr rule;
        private int at;

        Text(String text) throws Fault {
            int i = 0;
            while (i < text.length()) {
                int from = i;
                char c = text.charAt(i);
                i++;
                if (c == 32 || c == 10) {
                    continue;
                }
                String row = c >= 'a' && c <= 'z' ? "az" : c >= '0' && c <= '9' ? "09" : null;
                while (row != null && i < text.length() && text.charAt(i) >= row.charAt(0)
                        && text.charAt(i) <= row.charAt(1)) {
                    i++;
                }
                tokens.add(new Token(text.substring(from, i), from));
            }
            tokens.add(new Token("", text.length()));
            while (!peek().text.isEmpty()) {
                line();
            }
        }

        private Token peek() {
            return tokens.get(at);
        }

        private Token next() {
            return tokens.get(at++);
        }

        private void must(String sign) throws Fault {
            if (!peek().text.equals(sign)) {
                throw new Fault(1, peek().place);
            }
            at++;
        }

        private int number(int low, int high) throws Fault {
            Token t = peek();
            if (!t.isNumber()) {
                throw new Fault(1, t.place);
            }
            if (t.text.length() > 4 || Integer.parseInt(t.text) < low || Integer.parseInt(t.text) > high) {
                throw new Fault(2, t.place);
            }
            at++;
            return Integer.parseInt(t.text);
        }

        private void room(Token t, boolean is) throws Fault {
            if (!is) {
                throw new Fault(2, t.place);
            }
        }

        private void line() throws Fault {
            Token t = next();
            switch (t.text) {
                case "tin":
                case "copper":
                case "iron":
                case "enamel":
                    room(t, pots.size() < 8);
                    Pot p = new Pot();
                    p.kind = t.text;
                    p.spout = number(1, 24);
                    p.size = number(1, 40);
                    p.fill = number(0, p.size);
                    p.chalk = number(0, 9);
                    pots.add(p);
                    break;
                case "stove":
                    room(t, powers.size() < 4);
                    powers.add(number(1, 40));
                    break;
                case "dish":
                    room(t, dishes.size() < 5);
                    steps();
                    break;
                case "lifts":
                    if (rule != null) {
                        throw new Fault(5, t.place);
                    }
                    rule = expr(0);
                    break;
                default:
                    throw new Fault(1, t.place);
            }
            must(";");
        }

        private void steps() throws Fault {
            List<Integer> steps = new ArrayList<>();
            do {
                Token t = peek();
                room(t, !t.isNumber() || steps.size() < 3);
                int step = number(1, 24);
                if (steps.contains(step)) {
                    throw new Fault(4, t.place);
                }
                steps.add(step);
            } while (peek().isNumber());
            dishes.add(steps);
        }

        private Expr expr(int within) throws Fault {
            Token t = peek();
            room(t, within < 6 || !(t.isNumber() || t.isWord() || t.text.equals("(")));
            Expr left = and(within);
            while (peek().text.equals("or")) {
                at++;
                Expr a = left;
                Expr b = and(within);
                left = (n, p) -> a.of(n, p) != 0 | b.of(n, p) != 0 ? 1 : 0;
            }
            return left;
        }

        private Expr and(int within) throws Fault {
            Expr left = not(within, 1);
            while (peek().text.equals("and")) {
                at++;
                Expr a = left;
                Expr b = not(within, 1);
                left = (n, p) -> a.of(n, p) != 0 & b.of(n, p) != 0 ? 1 : 0;
            }
            return left;
        }

        private Expr not(int within, int which) throws Fault {
            if (peek().text.equals("not")) {
                room(peek(), which < 7);
                at++;
                Expr a = not(within, which + 1);
                return (n, p) -> a.of(n, p) == 0 ? 1 : 0;
            }
            Expr a = sum(within);
            if (peek().text.equals("<") || peek().text.equals("=")) {
                boolean less = next().text.equals("<");
                Expr b = sum(within);
                return (n, p) -> (less ? a.of(n, p) < b.of(n, p) : a.of(n, p) == b.of(n, p)) ? 1 : 0;
            }
            return a;
        }

        private Expr sum(int within) throws Fault {
            Expr left = product(within);
            while (peek().text.equals("+") || peek().text.equals("-")) {
                int sign = next().text.equals("+") ? 1 : -1;
                Expr a = left;
                Expr b = product(within);
                left = (n, p) -> a.of(n, p) + sign * b.of(n, p);
            }
            return left;
        }

        private Expr product(int within) throws Fault {
            Expr left = part(within);
            while (peek().text.equals("*") || peek().text.equals("/")) {
                boolean times = next().text.equals("*");
                Expr a = left;
                Expr b = part(within);
                left = (n, p) -> times ? a.of(n, p) * b.of(n, p) : b.of(n, p) == 0 ? 0 : a.of(n, p) / b.of(n, p);
            }
            return left;
        }

        private Expr part(int within) throws Fault {
            Token t = peek();
            if (t.isNumber()) {
                int number = number(0, 9999);
                return (n, p) -> number;
            }
            if (t.text.equals("(")) {
                at++;
                Expr inner = expr(within + 1);
                must(")");
                return inner;
            }
            if (!t.isWord()) {
                throw new Fault(1, t.place);
            }
            at++;
            switch (t.text) {
                case "note":
                    return (n, p) -> p.note == NONE ? 0 : p.note;
                case "sung":
                    return (n, p) -> p.sung;
                case "third":
                    return (n, p) -> p.note != NONE
                            && (n.choir().contains(p.note + 3) || n.choir().contains(p.note + 4)) ? 1 : 0;
                case "heat":
                    return (n, p) -> p.heat;
                case "fill":
                    return (n, p) -> p.fill;
                case "chalk":
                    return (n, p) -> p.chalk;
                case "singers":
                    return (n, p) -> n.singers();
                default:
                    throw new Fault(3, t.place);
            }
        }
    }

    private static final class Kept {
        Now now;
        Deque<Now> acts;
        List<int[]> heard;
        int[] status;
    }

    private String tape = "";
    private int faultPlace = NONE;
    private List<Integer> powers = new ArrayList<>();
    private List<List<Integer>> dishes = new ArrayList<>();
    private Expr rule;
    private Now now = new Now();
    private Deque<Now> acts = new ArrayDeque<>();
    private List<int[]> heard = new ArrayList<>();
    private int[] status = new int[3];
    private Kept kept;

    private void pass(Now n) {
        for (Pot p : n.pots) {
            if (p.stove != NONE) {
                p.heatBy(powers.get(p.stove));
            } else {
                p.cool();
            }
        }
        for (Pot p : n.pots) {
            p.sing();
        }
        for (int d = 0; d < dishes.size(); d++) {
            for (int root : n.choir()) {
                boolean all = true;
                for (int step : dishes.get(d)) {
                    all &= n.choir().contains(root + step);
                }
                if (all && n.ready[d] == NONE) {
                    n.ready[d] = n.minute;
                }
            }
        }
        for (Pot p : n.pots) {
            if (n.minute % 3 == 0) {
                p.boilOff();
            }
        }
        for (Pot p : n.pots) {
            if (rule != null && p.stove != NONE && rule.of(n, p) > 0) {
                p.stove = NONE;
            }
        }
        n.minute++;
    }

    private Now after(Now from, int minutes) {
        Now n = from.copy();
        for (int m = 0; m < minutes; m++) {
            pass(n);
        }
        return n;
    }

    /** now itself, and as it is behind each of the next so many minutes. */
    private List<Now> course(Now from, int minutes) {
        List<Now> course = new ArrayList<>();
        course.add(from);
        for (int m = 1; m <= minutes; m++) {
            course.add(after(course.get(m - 1), 1));
        }
        return course;
    }

    private Pot pot(int kettle) {
        if (kettle < 0 || kettle >= now.pots.size()) {
            throw new NoSuchElementException();
        }
        return now.pots.get(kettle);
    }

    private void need(boolean is) {
        if (!is) {
            throw new NoSuchElementException();
        }
    }

    private void legal(boolean is) {
        if (!is) {
            throw new IllegalArgumentException();
        }
    }

    private void act() {
        acts.addLast(now.copy());
        if (acts.size() > 40) {
            acts.removeFirst();
        }
    }

    private int refuse(int which) {
        status[which]++;
        return NONE;
    }

    int feed(int... numbers) {
        if (tape.length() + 20 > 600) {
            return NONE;
        }
        for (int number : numbers) {
            for (int shift = 24; shift >= 0; shift -= 8) {
                tape += (char) (number >>> shift & 255);
            }
        }
        return tape.length();
    }

    int kitchen(int n) {
        legal(n >= 0 && n <= tape.length());
        String text = tape.substring(0, n);
        tape = "";
        try {
            Text t = new Text(text);
            faultPlace = NONE;
            powers = t.powers;
            dishes = t.dishes;
            rule = t.rule;
            now = new Now();
            now.pots.addAll(t.pots);
            now.ready = new int[dishes.size()];
            Arrays.fill(now.ready, NONE);
            acts.clear();
            heard.clear();
            kept = null;
            return 0;
        } catch (Fault f) {
            status[0]++;
            faultPlace = f.place;
            return f.code;
        }
    }

    int fault() {
        return faultPlace;
    }

    int count(int what) {
        need(what >= 0 && what <= 14);
        int sang = 0;
        int lids = 0;
        int thirds = 0;
        for (int k = 0; k < now.pots.size(); k++) {
            Pot p = now.pots.get(k);
            sang += p.note != NONE ? 1 << k : 0;
            lids += p.heat >= 95 ? 1 << k : 0;
            for (Pot q : now.pots) {
                boolean above = p.note != NONE && q.note != NONE && (q.note - p.note == 3 || q.note - p.note == 4);
                thirds += above ? 1 : 0;
            }
        }
        int ready = 0;
        for (int d = 0; d < dishes.size(); d++) {
            ready += now.ready[d] != NONE ? 1 << d : 0;
        }
        int[] all = {now.pots.size(), powers.size(), dishes.size(), now.minute, sang, ready, lids, lids - (lids & sang),
            thirds, acts.size(), heard.size(), tape.length(), status[0], status[1], status[2]};
        return all[what];
    }

    int kettle(int kettle, int what) {
        Pot p = pot(kettle);
        need(what >= 0 && what <= 8);
        int kind = List.of("tin", "copper", "iron", "enamel").indexOf(p.kind);
        int[] all = {kind, p.spout, p.size, p.fill, p.chalk, p.heat, p.stove, p.sung, p.note};
        return all[what];
    }

    int stove(int stove, int what) {
        need(stove >= 0 && stove < powers.size());
        need(what == 0 || what == 1);
        return what == 0 ? powers.get(stove) : now.pots.indexOf(now.on(stove));
    }

    int dish(int dish, int i) {
        need(dish >= 0 && dish < dishes.size());
        List<Integer> steps = dishes.get(dish);
        need(i >= -2 && i < steps.size());
        return i == -2 ? now.ready[dish] : i == NONE ? steps.size() : steps.get(i);
    }

    int minutes(int many) {
        if (many < 1 || many > 30 || now.minute + many > 9999) {
            return refuse(1);
        }
        act();
        now = after(now, many);
        return now.minute;
    }

    boolean put(int kettle, int stove) {
        pot(kettle);
        need(stove >= 0 && stove < powers.size());
        if (now.on(stove) != null) {
            refuse(1);
            return false;
        }
        act();
        pot(kettle).stove = stove;
        return true;
    }

    int lift(int kettle) {
        int stove = pot(kettle).stove;
        if (stove == NONE) {
            return refuse(1);
        }
        act();
        pot(kettle).stove = NONE;
        return stove;
    }

    int pour(int kettle, int fill) {
        Pot p = pot(kettle);
        if (fill < 0 || fill > p.size || fill == p.fill) {
            return refuse(1);
        }
        act();
        if (fill > p.fill) {
            p.heat = p.heat * p.fill / fill;
        }
        p.fill = fill;
        return p.heat;
    }

    int scrape(int kettle) {
        Pot p = pot(kettle);
        int chalk = p.chalk;
        if (p.stove != NONE || chalk == 0) {
            return refuse(1);
        }
        act();
        p.chalk = 0;
        return chalk;
    }

    int undo() {
        if (acts.isEmpty()) {
            return NONE;
        }
        now = acts.removeLast().copy();
        return acts.size();
    }

    int then(int kettle, int minutes) {
        pot(kettle);
        legal(minutes >= 1 && minutes <= 120);
        return after(now, minutes).pots.get(kettle).note;
    }

    int sung(int kettle) {
        pot(kettle);
        List<Now> course = course(now, 120);
        for (int m = 1; m <= 120; m++) {
            if (course.get(m).pots.get(kettle).note != NONE) {
                return m;
            }
        }
        return NONE;
    }

    int done(int dish) {
        need(dish >= 0 && dish < dishes.size());
        List<Now> course = course(now, 120);
        for (int m = 0; m <= 120; m++) {
            if (course.get(m).ready[dish] != NONE) {
                return m;
            }
        }
        return NONE;
    }

    int fugue(int many) {
        legal(many >= 1 && many <= 8);
        List<Now> course = course(now, 120);
        for (int m = 1; m <= 120; m++) {
            if (course.get(m).singers() >= many) {
                return m;
            }
        }
        return NONE;
    }

    int quiet() {
        List<Now> course = course(now, 120);
        for (int m = 1; m <= 120; m++) {
            if (course.get(m).singers() == 0 && course.get(m - 1).singers() > 0) {
                return m;
            }
        }
        return NONE;
    }

    int loudest(int what) {
        need(what == 0 || what == 1);
        List<Now> course = course(now, 60);
        int most = 0;
        for (int m = 1; m <= 60; m++) {
            most = Math.max(most, course.get(m).singers());
        }
        for (int m = 1; m <= 60; m++) {
            if (most > 0 && course.get(m).singers() == most) {
                return what == 0 ? m : most;
            }
        }
        return what == 0 ? NONE : 0;
    }

    int dry(int kettle) {
        pot(kettle);
        List<Now> course = course(now, 120);
        for (int m = 0; m <= 120; m++) {
            if (course.get(m).pots.get(kettle).fill == 0) {
                return m;
            }
        }
        return NONE;
    }

    private List<List<Integer>> rows(int stove, List<Integer> ahead) {
        List<List<Integer>> rows = new ArrayList<>();
        if (stove == powers.size()) {
            rows.add(ahead);
            return rows;
        }
        for (int k = NONE; k < now.pots.size(); k++) {
            if (k == NONE || !ahead.contains(k)) {
                List<Integer> more = new ArrayList<>(ahead);
                more.add(k);
                rows.addAll(rows(stove + 1, more));
            }
        }
        return rows;
    }

    int soonest(int dish, int i) {
        need(dish >= 0 && dish < dishes.size());
        need(i >= NONE && i < powers.size());
        int best = 61;
        int answer = NONE;
        for (List<Integer> row : rows(0, new ArrayList<>())) {
            Now n = now.copy();
            for (Pot p : n.pots) {
                p.stove = NONE;
            }
            for (int s = 0; s < row.size(); s++) {
                if (row.get(s) != NONE) {
                    n.pots.get(row.get(s)).stove = s;
                }
            }
            for (int m = 1; m <= 60 && now.ready[dish] == NONE && n.ready[dish] == NONE; m++) {
                pass(n);
                if (n.ready[dish] != NONE && m < best) {
                    best = m;
                    answer = i == NONE ? m : row.get(i);
                }
            }
        }
        return answer;
    }

    private static int tunedFill(Pot p, int note) {
        int best = NONE;
        for (int fill = p.size * 9 / 10; fill >= 1; fill--) {
            boolean sung = p.chalk != 9 && p.noteAt(fill, 100) == note;
            if (sung && (best == NONE || Math.abs(fill - p.fill) <= Math.abs(best - p.fill))) {
                best = fill;
            }
        }
        return best;
    }

    int tuned(int kettle, int note) {
        Pot p = pot(kettle);
        legal(note >= 0 && note <= 60);
        return tunedFill(p, note);
    }

    private int cups(List<Integer> notes, List<Pot> free) {
        if (notes.isEmpty()) {
            return 0;
        }
        int best = NONE;
        for (Pot p : free) {
            int fill = tunedFill(p, notes.get(0));
            if (fill != NONE) {
                List<Pot> others = new ArrayList<>(free);
                others.remove(p);
                int more = cups(notes.subList(1, notes.size()), others);
                int all = Math.abs(fill - p.fill) + more;
                best = more != NONE && (best == NONE || all < best) ? all : best;
            }
        }
        return best;
    }

    int chord(int dish) {
        need(dish >= 0 && dish < dishes.size());
        int best = NONE;
        for (int root = 0; root <= 60; root++) {
            List<Integer> notes = new ArrayList<>();
            notes.add(root);
            for (int step : dishes.get(dish)) {
                notes.add(root + step);
            }
            int all = cups(notes, now.pots);
            best = all != NONE && (best == NONE || all < best) ? all : best;
        }
        return best;
    }

    int burner(int kettle, int minutes) {
        pot(kettle);
        legal(minutes >= 1 && minutes <= 120);
        for (int power = 1; power <= 40; power++) {
            Pot p = pot(kettle).copy();
            for (int m = 1; m <= minutes; m++) {
                p.heatBy(power);
                p.sing();
                if (p.note != NONE) {
                    return power;
                }
            }
        }
        return NONE;
    }

    int together(int kettle, int other, int power, int steps) {
        Pot p = pot(kettle).copy();
        Pot q = pot(other).copy();
        legal(kettle != other && power >= 1 && power <= 40 && steps >= 0 && steps <= 24);
        int minutes = 0;
        for (int m = 0; m < 60; m++) {
            for (Pot each : List.of(p, q)) {
                each.heatBy(power);
                each.sing();
            }
            boolean so = p.note != NONE && q.note != NONE && Math.abs(p.note - q.note) == steps;
            minutes += so ? 1 : 0;
            for (Pot each : List.of(p, q)) {
                if ((now.minute + m) % 3 == 0) {
                    each.boilOff();
                }
            }
        }
        return minutes;
    }

    int hear(int minutes, int note) {
        if (heard.size() == 8 || minutes < 1 || minutes > 60 || note < NONE || note > 60) {
            return refuse(2);
        }
        heard.add(new int[] {minutes, note});
        return heard.size();
    }

    private boolean isSo(List<Now> course) {
        for (int[] h : heard) {
            Set<Integer> choir = course.get(h[0]).choir();
            if (h[1] == NONE ? !choir.isEmpty() : !choir.contains(h[1])) {
                return false;
            }
        }
        return true;
    }

    private List<List<Now>> chalks(List<Integer> names) {
        List<List<Now>> courses = new ArrayList<>();
        for (int k = 0; k < now.pots.size(); k++) {
            for (int c = 0; c <= 9; c++) {
                Now n = now.copy();
                n.pots.get(k).chalk = c;
                if (c != now.pots.get(k).chalk && isSo(course(n, 60))) {
                    names.add(10 * k + c);
                    courses.add(course(n, 60));
                }
            }
        }
        return courses;
    }

    int chalk(int what) {
        need(what >= 0 && what <= 2);
        List<Integer> names = new ArrayList<>();
        chalks(names);
        int first = names.isEmpty() ? NONE : names.get(0);
        return what == 0 ? names.size() : what == 1 ? first : isSo(course(now, 60)) ? 1 : 0;
    }

    int listen(int what) {
        need(what == 0 || what == 1);
        List<List<Now>> courses = chalks(new ArrayList<>());
        int minute = NONE;
        int most = 0;
        for (int m = 1; m <= 60; m++) {
            Set<Set<Integer>> choirs = new HashSet<>();
            for (List<Now> course : courses) {
                choirs.add(course.get(m).choir());
            }
            if (choirs.size() > most) {
                most = choirs.size();
                minute = m;
            }
        }
        return what == 0 ? minute : most;
    }

    void forget() {
        heard.clear();
    }

    private int gain(int kettle, int other, boolean keeps, boolean otherKeeps) {
        if (!keeps) {
            return 0;
        }
        Set<Integer> near = new HashSet<>();
        for (int k = 0; k < now.pots.size(); k++) {
            if (k != kettle && now.pots.get(k).note != NONE && (k != other || otherKeeps)) {
                near.add(Math.abs(now.pots.get(k).note - now.pots.get(kettle).note));
            }
        }
        return near.contains(1) || near.contains(2) ? -4 : 6;
    }

    int game(int kettle, int other, int what) {
        Pot p = pot(kettle);
        Pot q = pot(other);
        need(what == 0 || what == 1);
        legal(kettle != other);
        List<Integer> rests = new ArrayList<>();
        for (int couple : new int[] {0, 1, 10, 11}) {
            boolean a = couple >= 10;
            boolean b = couple % 10 == 1;
            boolean content = gain(kettle, other, !a, b) <= gain(kettle, other, a, b);
            boolean otherContent = gain(other, kettle, !b, a) <= gain(other, kettle, b, a);
            if (p.note != NONE && q.note != NONE && content && otherContent) {
                rests.add(couple);
            }
        }
        return what == 0 ? rests.size() : rests.isEmpty() ? NONE : rests.get(0);
    }

    int evening(int seed, int n, int what) {
        need(what >= 0 && what <= 2);
        legal(n >= 0 && n <= 90);
        Now evening = now.copy();
        int loud = 0;
        int highest = 0;
        for (int m = 0; m < n; m++) {
            if (!evening.pots.isEmpty()) {
                seed = seed * 1103515245 + 12345;
                Pot p = evening.pots.get((seed & 0x7fffffff) / 65536 % evening.pots.size());
                seed = seed * 1103515245 + 12345;
                int deed = (seed & 0x7fffffff) / 65536 % 4;
                if (deed == 0) {
                    p.stove = NONE;
                }
                for (int s = 0; s < powers.size() && deed == 1; s++) {
                    if (p.stove == NONE && evening.on(s) == null) {
                        p.stove = s;
                    }
                }
            }
            pass(evening);
            loud += evening.singers() > 0 ? 1 : 0;
            for (int note : evening.choir()) {
                highest = Math.max(highest, note);
            }
        }
        int ready = 0;
        for (int r : evening.ready) {
            ready += r != NONE ? 1 : 0;
        }
        return what == 0 ? ready : what == 1 ? loud : highest;
    }

    void image() {
        kept = new Kept();
        kept.now = now.copy();
        kept.acts = new ArrayDeque<>(acts);
        kept.heard = new ArrayList<>(heard);
        kept.status = status.clone();
    }

    boolean restore() {
        if (kept == null) {
            return false;
        }
        now = kept.now.copy();
        acts = new ArrayDeque<>(kept.acts);
        heard = new ArrayList<>(kept.heard);
        status = kept.status.clone();
        return true;
    }
}
