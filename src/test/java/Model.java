import java.util.ArrayList;
import java.util.HashMap;
import java.util.HashSet;
import java.util.List;
import java.util.Map;
import java.util.Set;
import java.util.TreeMap;

/**
 * A second program for the document, written from its words and as plainly as can be: it descends into the
 * grammar and tries out every cast, every week and every set of parts. It is slow and may throw.
 */
final class Model {
    static final Set<String> RESERVED = Set.of("floor", "hard", "work", "part", "note", "at", "may", "cost", "teach",
            "when", "and", "or", "not", "body", "known", "last", "load", "idle", "heavy", "day", "counts");

    static final class Fault extends RuntimeException {
        final int number;
        final int place;

        Fault(int number, int place) {
            this.number = number;
            this.place = place;
        }
    }

    record Token(String text, int place) {
        boolean isEnd() { return text.isEmpty(); }
        boolean isNumber() { return !isEnd() && Character.isDigit(text.charAt(0)); }
        boolean isWord() { return !isEnd() && text.charAt(0) >= 'a' && text.charAt(0) <= 'z'; }
        boolean isName() { return isWord() && !RESERVED.contains(text); }
    }

    record Part(int work, boolean note, int x, int y, String marks) { }

    record Fact(String kind, int body, int part, int a, int b, int told, int[] untold) { }

    interface Expression {
        int of(Map<String, Integer> values);
    }

    record Rules(int day, Map<String, Expression> lines) { }

    // ---- state ----

    List<Byte> tape = new ArrayList<>();
    int works = 0;
    int wide = 10;
    int deep = 10;
    int hard = 0;
    List<Part> parts = new ArrayList<>();
    int bodies = 0;
    List<Fact> facts = new ArrayList<>();
    List<Rules> rules = new ArrayList<>();
    List<int[]> rehearsals = new ArrayList<>();
    int time = 0;
    int rooms = 2;
    int fault = 0;
    int faultPlace = -1;
    String[] readings = {"neswoxoo", "neswoxoo"};

    // ---- tokens ----

    private List<Token> tokens;
    private int at;

    private static Token tokenFrom(String text, int from, boolean behindNumber) {
        int i = from;
        while (i < text.length() && (text.charAt(i) == ' ' || text.charAt(i) == '\n')) i++;
        if (i == text.length()) return new Token("", i);
        char c = text.charAt(i);
        if (";()<>=+-*".indexOf(c) >= 0) return new Token("" + c, i);
        String rest = text.substring(i);
        if (c >= '0' && c <= '9') return new Token(rest.replaceAll("(?s)^([0-9]{1,4}).*", "$1"), i);
        if (c >= 'a' && c <= 'z' && !(behindNumber && i == from)) {
            return new Token(rest.replaceAll("(?s)^([a-z]{1,8}).*", "$1"), i);
        }
        return new Token("?", i);
    }

    private void split() {
        StringBuilder text = new StringBuilder();
        for (byte b : tape) text.append((char) (b & 255));
        tokens = new ArrayList<>();
        at = 0;
        int from = 0;
        boolean number = false;
        while (true) {
            Token t = tokenFrom(text.toString(), from, number);
            tokens.add(t);
            if (t.isEnd() || t.text().equals("?")) return;
            number = t.isNumber();
            from = t.place() + t.text().length();
        }
    }

    private Token peek() {
        Token t = tokens.get(at);
        if (t.text().equals("?")) throw new Fault(1, t.place());
        return t;
    }

    private Token need(boolean good) {
        Token t = peek();
        if (!good) throw new Fault(2, t.place());
        at++;
        return t;
    }

    private void word(String w) {
        need(peek().text().equals(w));
    }

    private int number(int least, int most) {
        Token t = need(peek().isNumber());
        int n = Integer.parseInt(t.text());
        if (n < least || n > most) throw new Fault(4, t.place());
        return n;
    }

    // ---- works ----

    int works() {
        split();
        Model m = new Model();
        fault = 0;
        faultPlace = -1;
        int lines = 0;
        try {
            Set<String> names = new HashSet<>();
            boolean floor = false;
            while (!peek().isEnd()) {
                Token first = peek();
                switch (first.text()) {
                    case "floor" -> {
                        need(!floor);
                        floor = true;
                        m.wide = number(1, 20);
                        m.deep = number(1, 20);
                        word("hard");
                        m.hard = number(0, 9);
                    }
                    case "work" -> {
                        need(m.works < 4);
                        name(names);
                        m.works++;
                    }
                    case "part", "note" -> m.parts.add(readPart(m, names));
                    default -> throw new Fault(2, first.place());
                }
                word(";");
                lines++;
            }
        } catch (Fault f) {
            fault = f.number;
            faultPlace = f.place;
            return -1;
        }
        works = m.works;
        wide = m.wide;
        deep = m.deep;
        hard = m.hard;
        parts = m.parts;
        facts = new ArrayList<>();
        rehearsals = new ArrayList<>();
        tape.clear();
        return lines;
    }

    private void name(Set<String> names) {
        Token t = need(peek().isName());
        if (!names.add(t.text())) throw new Fault(3, t.place());
    }

    private Part readPart(Model m, Set<String> names) {
        int work = m.works - 1;
        long ofWork = m.parts.stream().filter(p -> p.work() == work).count();
        boolean note = peek().text().equals("note");
        need(work >= 0 && m.parts.size() < 12 && ofWork < 8);
        name(names);
        word("at");
        int x = number(0, 19);
        int y = number(0, 19);
        String letters = note ? "abcdefgh" : "neswox";
        String marks = "";
        do {
            Token t = need(peek().isName());
            marks += t.text();
            if (marks.length() > 32 || t.text().chars().anyMatch(c -> letters.indexOf(c) < 0)) {
                throw new Fault(5, t.place());
            }
        } while (peek().isWord());
        return new Part(work, note, x, y, marks);
    }

    boolean isPart(int p) { return p >= 0 && p < parts.size(); }
    boolean isNote(int p) { return isPart(p) && parts.get(p).note(); }
    boolean isWork(int w) { return w >= 0 && w < works; }
    boolean isBody(int b) { return b >= 0 && b < bodies; }
    static boolean isReader(int r) { return r == 0 || r == 1; }
    static boolean isDay(int d) { return d >= 0 && d <= 999; }

    int part(int p, int what) {
        if (!isPart(p) || what < 0 || what > 4) return -1;
        Part q = parts.get(p);
        return new int[] {q.work(), q.marks().length(), q.note() ? 1 : 0, q.x(), q.y()}[what];
    }

    boolean reads(int r, int sign, int step) {
        if (!isReader(r) || sign < 0 || sign > 7 || step < 0 || step > 5) return false;
        StringBuilder s = new StringBuilder(readings[r]);
        s.setCharAt(sign, "neswox".charAt(step));
        readings[r] = s.toString();
        return true;
    }

    private String steps(int p, int r) {
        Part q = parts.get(p);
        if (!q.note()) return q.marks();
        StringBuilder s = new StringBuilder();
        for (char c : q.marks().toCharArray()) s.append(readings[r].charAt(c - 'a'));
        return s.toString();
    }

    int step(int p, int count, int r) {
        if (!isPart(p) || !isReader(r) || count < 1 || count > parts.get(p).marks().length()) return -1;
        return "neswox".indexOf(steps(p, r).charAt(count - 1));
    }

    private int[] place(int p, int count, int r) {
        String s = steps(p, r);
        s = s.substring(0, Math.min(count, s.length()));
        int x = parts.get(p).x();
        int y = parts.get(p).y();
        for (char c : s.toCharArray()) {
            if (c == 'n') y--;
            if (c == 's') y++;
            if (c == 'e') x++;
            if (c == 'w') x--;
        }
        return new int[] {x, y};
    }

    int where(int p, int count, int r) {
        if (!isPart(p) || !isReader(r) || count < 0 || count > 32) return -1;
        int[] xy = place(p, count, r);
        return 1000 * (xy[0] + 100) + xy[1] + 100;
    }

    private List<Integer> partsOf(int work) {
        List<Integer> list = new ArrayList<>();
        for (int p = 0; p < parts.size(); p++) if (parts.get(p).work() == work) list.add(p);
        return list;
    }

    int meet(int w, int r) {
        if (!isWork(w) || !isReader(r)) return -1;
        for (int c = 0; c <= 32; c++) {
            Set<Integer> seen = new HashSet<>();
            for (int p : partsOf(w)) if (!seen.add(where(p, c, r))) return c;
        }
        return -1;
    }

    int breaks(int w, int r, int wid, int dee) {
        if (!isWork(w) || !isReader(r) || wid < 1 || wid > 20 || dee < 1 || dee > 20) return -1;
        for (int c = 0; c <= 32; c++) {
            for (int p : partsOf(w)) {
                int[] xy = place(p, c, r);
                if (xy[0] < 0 || xy[0] > wid - 1 || xy[1] < 0 || xy[1] > dee - 1) return c;
            }
        }
        return -1;
    }

    int load(int p, int r) {
        if (!isPart(p) || !isReader(r)) return -1;
        String s = steps(p, r);
        int moves = s.replaceAll("[ox]", "").length();
        int leaps = s.replaceAll("[^x]", "").length();
        return moves + 3 * leaps + s.length() * hard / 4;
    }

    int like(int a, int b, int r) {
        if (!isPart(a) || !isPart(b) || !isReader(r)) return -1;
        String s = steps(a, r);
        String t = steps(b, r);
        int n = 0;
        for (int i = 0; i < Math.min(s.length(), t.length()); i++) if (s.charAt(i) == t.charAt(i)) n++;
        return n;
    }

    int rival(int p) {
        if (!isNote(p)) return -1;
        for (int c = 1; c <= parts.get(p).marks().length(); c++) if (step(p, c, 0) != step(p, c, 1)) return c;
        return -1;
    }

    // ---- facts ----

    private int tell(boolean good, String kind, int body, int part, int a, int b) {
        if (!good || facts.size() >= 200) return -1;
        facts.add(new Fact(kind, body, part, a, b, time, new int[] {Integer.MAX_VALUE, 0}));
        return facts.size() - 1;
    }

    int body() {
        return bodies < 10 ? bodies++ : -1;
    }

    int knows(int b, int p, int d) { return tell(isBody(b) && isPart(p) && isDay(d), "knows", b, p, d, d); }
    int danced(int b, int p, int d) { return tell(isBody(b) && isPart(p) && isDay(d), "danced", b, p, d, d); }
    int out(int b, int d, int e) { return tell(isBody(b) && isDay(d) && isDay(e) && d <= e, "out", b, -1, d, e); }
    int leaves(int b, int d) { return tell(isBody(b) && isDay(d), "leaves", b, -1, d, d); }

    int film(int p, int c, int s) {
        return tell(isNote(p) && c >= 1 && c <= parts.get(p).marks().length() && s >= 0 && s <= 5, "film", -1, p, c, s);
    }

    boolean untell(int f) {
        if (f < 0 || f >= facts.size() || facts.get(f).untold()[1] == 1) return false;
        facts.get(f).untold()[0] = time;
        facts.get(f).untold()[1] = 1;
        return true;
    }

    int later(int by) {
        if (by < 0 || by > 1000 || time + by > 100000) return -1;
        time += by;
        return time;
    }

    private List<Fact> asKnown(int k, String kind) {
        return facts.stream().filter(f -> f.kind().equals(kind) && f.told() <= k
                && !(f.untold()[1] == 1 && f.untold()[0] <= k)).toList();
    }

    int borne(int p, int r, int k) {
        if (!isNote(p) || !isReader(r)) return -1;
        return (int) asKnown(k, "film").stream().filter(f -> f.part() == p && step(p, f.a(), r) == f.b()).count();
    }

    private boolean knowsIt(int b, int p, int day, int k) {
        return asKnown(k, "knows").stream().anyMatch(f -> f.body() == b && f.part() == p && f.a() <= day);
    }

    private boolean isOut(int b, int day, int k) {
        return asKnown(k, "out").stream().anyMatch(f -> f.body() == b && f.a() <= day && day <= f.b());
    }

    private boolean isGone(int b, int day, int k) {
        return asKnown(k, "leaves").stream().anyMatch(f -> f.body() == b && f.a() <= day);
    }

    int asked(int b, int p, int day, int what, int k) {
        if (!isBody(b) || !isPart(p) || !isDay(day) || what < 0 || what > 3) return -1;
        List<Fact> danced = asKnown(k, "danced").stream().filter(f -> f.body() == b && f.a() < day).toList();
        switch (what) {
            case 0:
                return asKnown(k, "knows").stream().filter(f -> f.body() == b && f.part() == p && f.a() <= day)
                        .mapToInt(f -> day - f.a()).max().orElse(999);
            case 1:
                return danced.stream().filter(f -> f.part() == p).mapToInt(f -> day - f.a()).min().orElse(999);
            case 2:
                return danced.stream().filter(f -> day - f.a() <= 7).mapToInt(f -> load(f.part(), 0)).sum();
            default:
                return danced.stream().mapToInt(f -> day - f.a()).min().orElse(999);
        }
    }

    // ---- rules ----

    private int units;

    int rules(int day) {
        if (tape.size() > 600 || !isDay(day) || rules.size() == 6) return -2;
        split();
        tape.clear();
        fault = 0;
        faultPlace = -1;
        units = 0;
        Map<String, Expression> lines = new HashMap<>();
        try {
            while (!peek().isEnd()) {
                String line = peek().text();
                need(Set.of("may", "teach", "cost").contains(line) && !lines.containsKey(line));
                if (!line.equals("cost")) word("when");
                lines.put(line, either(0));
                word(";");
            }
        } catch (Fault f) {
            fault = f.number;
            faultPlace = f.place;
            return -1;
        }
        rules.add(new Rules(day, lines));
        return rules.size() - 1;
    }

    private boolean next(String w) {
        if (!peek().text().equals(w)) return false;
        at++;
        return true;
    }

    private Expression either(int within) {
        Expression a = both(within);
        while (next("or")) {
            Expression l = a;
            Expression r = both(within);
            a = v -> l.of(v) != 0 | r.of(v) != 0 ? 1 : 0;
        }
        return a;
    }

    private Expression both(int within) {
        Expression a = one(within);
        while (next("and")) {
            Expression l = a;
            Expression r = one(within);
            a = v -> l.of(v) != 0 & r.of(v) != 0 ? 1 : 0;
        }
        return a;
    }

    private Expression one(int within) {
        if (peek().text().equals("not")) {
            need(within <= 6);
            Expression a = one(within + 1);
            return v -> a.of(v) == 0 ? 1 : 0;
        }
        Expression l = sum(within);
        if (next("<")) {
            Expression r = sum(within);
            return v -> l.of(v) < r.of(v) ? 1 : 0;
        }
        if (next(">")) {
            Expression r = sum(within);
            return v -> l.of(v) > r.of(v) ? 1 : 0;
        }
        if (next("=")) {
            Expression r = sum(within);
            return v -> l.of(v) == r.of(v) ? 1 : 0;
        }
        return l;
    }

    private Expression sum(int within) {
        Expression a = term(within);
        while (true) {
            Expression l = a;
            if (next("+")) {
                Expression r = term(within);
                a = v -> l.of(v) + r.of(v);
            } else if (next("-")) {
                Expression r = term(within);
                a = v -> l.of(v) - r.of(v);
            } else {
                return a;
            }
        }
    }

    private Expression term(int within) {
        Expression a = unit(within);
        while (next("*")) {
            Expression l = a;
            Expression r = unit(within);
            a = v -> l.of(v) * r.of(v);
        }
        return a;
    }

    private Expression unit(int within) {
        Token t = peek();
        if (t.text().equals("(")) {
            need(++units <= 60 && within <= 6);
            Expression a = either(within + 1);
            word(")");
            return a;
        }
        Set<String> asks = Set.of("body", "part", "known", "last", "load", "idle", "heavy", "hard", "day", "counts");
        need((t.isNumber() || asks.contains(t.text())) && ++units <= 60);
        if (t.isNumber()) {
            int n = Integer.parseInt(t.text());
            return v -> n;
        }
        return v -> v.get(t.text());
    }

    private int rule(String line, int b, int p, int day, int k, int untold) {
        Rules force = null;
        for (Rules r : rules) {
            if (r.day() <= day && (force == null || force.day() <= r.day())) force = r;
        }
        if (force == null || !force.lines().containsKey(line)) return untold;
        Map<String, Integer> v = new TreeMap<>();
        v.put("body", b);
        v.put("part", p);
        v.put("known", asked(b, p, day, 0, k));
        v.put("last", asked(b, p, day, 1, k));
        v.put("load", asked(b, p, day, 2, k));
        v.put("idle", asked(b, p, day, 3, k));
        v.put("heavy", load(p, 0));
        v.put("hard", hard);
        v.put("day", day);
        v.put("counts", parts.get(p).marks().length());
        return force.lines().get(line).of(v);
    }

    // ---- casts ----

    int can(int b, int p, int day, int k) {
        if (!isBody(b) || !isPart(p) || !isDay(day)) return -1;
        return knowsIt(b, p, day, k) && !isOut(b, day, k) && !isGone(b, day, k) && rule("may", b, p, day, k, 1) != 0
                ? 1 : 0;
    }

    record Cast(List<Integer> bodies, int changes, long cost) { }

    /** All casts in the order of their bodies; the first of the best stays. */
    private Cast best(int work, int day, int k, int without, List<Integer> before) {
        List<Integer> ps = partsOf(work);
        boolean[][] can = new boolean[ps.size()][bodies];
        int[][] cost = new int[ps.size()][bodies];
        for (int i = 0; i < ps.size(); i++) {
            for (int b = 0; b < bodies; b++) {
                can[i][b] = b != without && can(b, ps.get(i), day, k) == 1;
                cost[i][b] = rule("cost", b, ps.get(i), day, k, 0);
            }
        }
        Cast[] found = {null};
        tryCasts(can, cost, before, new ArrayList<>(), found);
        return found[0];
    }

    private void tryCasts(boolean[][] can, int[][] cost, List<Integer> before, List<Integer> sofar, Cast[] found) {
        int i = sofar.size();
        if (i == can.length) {
            long sum = 0;
            int changes = 0;
            for (int j = 0; j < i; j++) {
                sum += cost[j][sofar.get(j)];
                if (before != null && !before.get(j).equals(sofar.get(j))) changes++;
            }
            Cast f = found[0];
            if (f == null || changes < f.changes() || changes == f.changes() && sum < f.cost()) {
                found[0] = new Cast(List.copyOf(sofar), changes, sum);
            }
            return;
        }
        for (int b = 0; b < bodies; b++) {
            if (can[i][b] && !sofar.contains(b)) {
                sofar.add(b);
                tryCasts(can, cost, before, sofar, found);
                sofar.remove(i);
            }
        }
    }

    private Cast castOf(int work, int day, int k) {
        return best(work, day, k, -1, null);
    }

    long cost(int w, int day, int k) {
        Cast c = isWork(w) && isDay(day) ? castOf(w, day, k) : null;
        return c == null ? -1000000000000L : c.cost();
    }

    int cast(int p, int day, int k) {
        if (!isPart(p) || !isDay(day)) return -1;
        int w = parts.get(p).work();
        Cast c = castOf(w, day, k);
        return c == null ? -1 : c.bodies().get(partsOf(w).indexOf(p));
    }

    int covers(int p, int day, int k) {
        if (!isPart(p) || !isDay(day)) return -1;
        Cast c = castOf(parts.get(p).work(), day, k);
        int n = 0;
        for (int b = 0; b < bodies; b++) {
            if (can(b, p, day, k) == 1 && (c == null || !c.bodies().contains(b))) n++;
        }
        return n;
    }

    private Cast fallOf(int w, int b, int day, int k) {
        Cast c = castOf(w, day, k);
        return best(w, day, k, b, c == null ? null : c.bodies());
    }

    int fall(int w, int b, int day, int k) {
        Cast c = isWork(w) && isBody(b) && isDay(day) ? fallOf(w, b, day, k) : null;
        return c == null ? -1 : c.changes();
    }

    int falls(int p, int b, int day, int k) {
        if (!isPart(p) || !isBody(b) || !isDay(day)) return -1;
        int w = parts.get(p).work();
        Cast c = fallOf(w, b, day, k);
        return c == null ? -1 : c.bodies().get(partsOf(w).indexOf(p));
    }

    int learn(int b, int p, int day, int k) {
        if (!isBody(b) || !isPart(p) || !isDay(day)) return -1;
        if (knowsIt(b, p, day, k)) return 0;
        boolean teacher = false;
        for (int t = 0; t < bodies; t++) {
            teacher |= t != b && knowsIt(t, p, day, k) && !isOut(t, day, k) && !isGone(t, day, k)
                    && rule("teach", t, p, day, k, 1) != 0;
        }
        if (!teacher) return -1;
        int most = 0;
        for (int q = 0; q < parts.size(); q++) if (knowsIt(b, q, day, k)) most = Math.max(most, like(p, q, 0));
        return parts.get(p).marks().length() - most;
    }

    // ---- rehearsals ----

    int rehearse(int w, int day) {
        if (!isWork(w) || !isDay(day) || rehearsals.size() == 9) return -1;
        rehearsals.add(new int[] {w, day});
        return rehearsals.size() - 1;
    }

    boolean rooms(int many) {
        if (many < 1 || many > 5) return false;
        rooms = many;
        return true;
    }

    int[] plan(int k) {
        int n = rehearsals.size();
        List<Set<Integer>> crews = new ArrayList<>();
        for (int[] r : rehearsals) {
            Cast c = castOf(r[0], r[1], k);
            crews.add(c == null ? Set.of() : new HashSet<>(c.bodies()));
        }
        int[][] best = {null};
        tryHours(crews, new int[n], 0, best);
        return best[0];
    }

    private static int distinct(int[] hours, int n) {
        Set<Integer> s = new HashSet<>();
        for (int i = 0; i < n; i++) s.add(hours[i]);
        return s.size();
    }

    private void tryHours(List<Set<Integer>> crews, int[] hours, int i, int[][] best) {
        int n = hours.length;
        if (best[0] != null && distinct(hours, i) >= distinct(best[0], n)) return;
        if (i == n) {
            best[0] = hours.clone();
            return;
        }
        for (int h = 0; h < n; h++) {
            int inHour = 0;
            boolean free = true;
            for (int j = 0; j < i; j++) {
                if (hours[j] != h) continue;
                inHour++;
                for (int b : crews.get(j)) free &= !crews.get(i).contains(b);
            }
            if (free && inHour < rooms) {
                hours[i] = h;
                tryHours(crews, hours, i + 1, best);
            }
        }
    }

    int week(int k) {
        int[] p = plan(k);
        return p == null ? 0 : distinct(p, p.length);
    }

    int hour(int r, int k) {
        return r < 0 || r >= rehearsals.size() ? -1 : plan(k)[r];
    }

    // ---- what lives ----

    private int living(int noted, int day, int k) {
        int n = 0;
        for (int w = 0; w < works; w++) {
            boolean lives = true;
            for (int p : partsOf(w)) {
                boolean kept = parts.get(p).note() || (noted >> p & 1) == 1;
                for (int b = 0; b < bodies; b++) kept |= knowsIt(b, p, day, k) && !isGone(b, day, k);
                lives &= kept;
            }
            if (lives) n++;
        }
        return n;
    }

    int live(int noted, int day, int k) {
        if (noted < 0 || noted >= 1 << parts.size() || !isDay(day)) return -1;
        return living(noted, day, k);
    }

    int note(int many, int day, int k) {
        if (many < 0 || many > 12 || !isDay(day)) return -1;
        int best = 0;
        for (int bits = 0; bits < 1 << parts.size(); bits++) {
            if (Integer.bitCount(bits) > many) continue;
            int a = living(bits, day, k);
            int b = living(best, day, k);
            if (a > b || a == b && Integer.bitCount(bits) < Integer.bitCount(best)) best = bits;
        }
        return best;
    }

    int about(int what) {
        if (what < 0 || what > 10) return -1;
        return new int[] {works, parts.size(), bodies, facts.size(), rules.size(), rehearsals.size(), time, tape.size(),
            wide, deep, hard}[what];
    }

    int faultIs(int what) {
        return what == 0 ? fault : what == 1 ? faultPlace : -1;
    }

    int feed(int... five) {
        if (tape.size() + 20 > 1400) return -1;
        for (int v : five) for (int s = 24; s >= 0; s -= 8) tape.add((byte) (v >> s));
        return tape.size();
    }

    int end(int n) {
        if (n < 0 || n > tape.size()) return -1;
        while (tape.size() > n) tape.remove(tape.size() - 1);
        return n;
    }
}
