import java.nio.charset.StandardCharsets;
import java.util.Arrays;
import java.util.Random;

/** Random runs of calls on a new object, every answer held against that of the model. */
public final class ModelTest {
    private static final int RUNS = 400;
    private static final int[] ODD = {-1, Integer.MIN_VALUE, Integer.MAX_VALUE, 1000, 999, 33, 32, 12, 13};
    private static final Due due = new Due("ModelTest");

    private final Random random;
    private final int run;
    private final DanceCompany x = new DanceCompany();
    private final Model m = new Model();
    private int calls = 0;

    private ModelTest(int run) {
        this.run = run;
        this.random = new Random(run);
    }

    public static void main(String[] args) {
        int runs = args.length > 0 ? Integer.parseInt(args[0]) : RUNS;
        for (int run = 0; run < runs; run++) {
            new ModelTest(run).go();
        }
        due.end();
    }

    private void go() {
        sendWorks(false);
        int bodies = random.nextInt(8);
        for (int i = 0; i < bodies; i++) {
            same("body", x.body(), m.body());
        }
        if (random.nextBoolean()) {
            sendRules(false);
        }
        if (random.nextInt(3) > 0) {
            tellMuch();
        }
        while (calls < 300) {
            if (random.nextInt(5) < 2) {
                tell();
            } else {
                ask();
            }
        }
    }

    /** So that there are casts, and several for a work. */
    private void tellMuch() {
        for (int b = 0; b < m.bodies; b++) {
            for (int p = 0; p < m.parts.size(); p++) {
                int d = random.nextInt(4);
                if (random.nextInt(4) > 0) {
                    same("knows", x.knows(b, p, d), m.knows(b, p, d));
                }
            }
        }
    }

    private void same(String call, long got, long want) {
        calls++;
        due.is("run " + run + " call " + calls + " " + call, got, want);
    }

    private void same(String call, boolean got, boolean want) {
        same(call, got ? 1 : 0, want ? 1 : 0);
    }

    // ---- arguments: mostly such as are, at times such as can't be ----

    private int small(int many) {
        return random.nextInt(40) == 0 ? ODD[random.nextInt(ODD.length)] : random.nextInt(many + (random.nextInt(20) == 0 ? 2 : 1));
    }

    private int body() { return random.nextInt(40) == 0 ? small(m.bodies) : random.nextInt(Math.max(1, m.bodies)); }
    private int part() { return random.nextInt(40) == 0 ? small(m.parts.size()) : random.nextInt(Math.max(1, m.parts.size())); }
    private int work() { return random.nextInt(40) == 0 ? small(m.works) : random.nextInt(Math.max(1, m.works)); }
    private int reader() { return small(1); }
    private int day() { return random.nextInt(60) == 0 ? ODD[random.nextInt(ODD.length)] : random.nextInt(16); }
    private int time() { return random.nextInt(8) == 0 ? small(5) : m.time; }

    // ---- telling ----

    private void tell() {
        int a = body();
        int p = part();
        int d = day();
        switch (random.nextInt(20)) {
            case 0: case 1: case 2: case 3: case 4: same("knows", x.knows(a, p, d), m.knows(a, p, d)); break;
            case 5: case 6: case 7: same("danced", x.danced(a, p, d), m.danced(a, p, d)); break;
            case 8: {
                int to = random.nextInt(10) == 0 ? day() : d + random.nextInt(3);
                same("out", x.out(a, d, to), m.out(a, d, to));
                break;
            }
            case 9: {
                int e = d + (random.nextInt(3) == 0 ? 0 : 10);
                same("leaves", x.leaves(a, e), m.leaves(a, e));
                break;
            }
            case 10: case 11: {
                int c = small(8);
                int s = small(5);
                same("film", x.film(p, c, s), m.film(p, c, s));
                break;
            }
            case 12: case 13: {
                int f = small(m.facts.size());
                same("untell", x.untell(f), m.untell(f));
                break;
            }
            case 14: {
                int by = random.nextInt(10) == 0 ? ODD[random.nextInt(ODD.length)] : random.nextInt(3);
                same("later", x.later(by), m.later(by));
                break;
            }
            case 15: {
                int r = reader();
                int sign = small(7);
                int s = small(5);
                same("reads", x.reads(r, sign, s), m.reads(r, sign, s));
                break;
            }
            case 16: if (m.rehearsals.size() < 6 || random.nextInt(20) == 0) { int w = work(); same("rehearse", x.rehearse(w, d), m.rehearse(w, d)); } break;
            case 17: { int r = small(6); same("rooms", x.rooms(r), m.rooms(r)); break; }
            case 18: if (random.nextInt(3) == 0) { sendRules(true); } else { same("body", x.body(), m.body()); } break;
            default: if (random.nextInt(8) == 0) { sendWorks(true); } break;
        }
    }

    // ---- asking ----

    private void ask() {
        int b = body();
        int p = part();
        int w = work();
        int d = day();
        int k = time();
        int r = reader();
        switch (random.nextInt(27)) {
            case 0: { int what = small(4); same("part", x.part(p, what), m.part(p, what)); break; }
            case 1: { int c = small(33); same("step", x.step(p, c, r), m.step(p, c, r)); break; }
            case 2: { int c = small(33); same("where", x.where(p, c, r), m.where(p, c, r)); break; }
            case 3: same("meet", x.meet(w, r), m.meet(w, r)); break;
            case 4: { int v = small(21); int h = small(21); same("breaks", x.breaks(w, r, v, h), m.breaks(w, r, v, h)); break; }
            case 5: same("load", x.load(p, r), m.load(p, r)); break;
            case 6: { int q = part(); same("like", x.like(p, q, r), m.like(p, q, r)); break; }
            case 7: same("rival", x.rival(p), m.rival(p)); break;
            case 8: same("borne", x.borne(p, r, k), m.borne(p, r, k)); break;
            case 9: case 10: case 11: { int what = small(3); same("asked", x.asked(b, p, d, what, k), m.asked(b, p, d, what, k)); break; }
            case 12: case 13: same("can", x.can(b, p, d, k), m.can(b, p, d, k)); break;
            case 14: same("cost", x.cost(w, d, k), m.cost(w, d, k)); break;
            case 15: case 16: same("cast", x.cast(p, d, k), m.cast(p, d, k)); break;
            case 17: same("covers", x.covers(p, d, k), m.covers(p, d, k)); break;
            case 18: same("fall", x.fall(w, b, d, k), m.fall(w, b, d, k)); break;
            case 19: case 20: same("falls", x.falls(p, b, d, k), m.falls(p, b, d, k)); break;
            case 21: same("learn", x.learn(b, p, d, k), m.learn(b, p, d, k)); break;
            case 22: same("week", x.week(k), m.week(k)); break;
            case 23: { int i = small(m.rehearsals.size()); same("hour", x.hour(i, k), m.hour(i, k)); break; }
            case 24: { int bits = random.nextInt(10) == 0 ? small(12) : random.nextInt(1 << m.parts.size()); same("live", x.live(bits, d, k), m.live(bits, d, k)); break; }
            case 25: { int many = small(12); same("note", x.note(many, d, k), m.note(many, d, k)); break; }
            default: { int what = small(10); same("about", x.about(what), m.about(what)); break; }
        }
    }

    // ---- texts ----

    private void send(String text) {
        same("end", x.end(0), m.end(0));
        byte[] bytes = text.getBytes(StandardCharsets.ISO_8859_1);
        byte[] padded = Arrays.copyOf(bytes, (bytes.length + 19) / 20 * 20);
        for (int i = 0; i < padded.length; i += 20) {
            int[] f = new int[5];
            for (int j = 0; j < 5; j++) f[j] = Due.four(padded, i + 4 * j);
            same("feed", x.feed(f[0], f[1], f[2], f[3], f[4]), m.feed(f));
        }
        same("end", x.end(bytes.length), m.end(bytes.length));
    }

    private void sendWorks(boolean spoil) {
        String text = worksText();
        if (spoil && random.nextInt(3) > 0) text = spoilt(text);
        send(text);
        same("works of " + text, x.works(), m.works());
        sameFault();
    }

    private void sendRules(boolean spoil) {
        String text = rulesText();
        if (spoil && random.nextInt(3) == 0) text = spoilt(text);
        send(text);
        int d = day();
        same("rules of " + text, x.rules(d), m.rules(d));
        sameFault();
    }

    private void sameFault() {
        same("fault 0", x.fault(0), m.faultIs(0));
        same("fault 1", x.fault(1), m.faultIs(1));
        same("bytes", x.about(7), m.about(7));
    }

    private String spoilt(String text) {
        StringBuilder s = new StringBuilder(text);
        String[] bits = {"(", ";", "not ", "1", "0123", " 21 ", "?", "n", "abcdefgh", "\n", "work ", "part ", "20", "floor", "\u00ff", "and", "<"};
        int many = 1 + random.nextInt(2);
        for (int i = 0; i < many && s.length() > 0; i++) {
            int at = random.nextInt(s.length());
            if (random.nextBoolean()) {
                s.insert(at, bits[random.nextInt(bits.length)]);
            } else if (random.nextBoolean()) {
                s.deleteCharAt(at);
            } else {
                s.setLength(at);
            }
        }
        return s.toString();
    }

    private String worksText() {
        StringBuilder s = new StringBuilder();
        if (random.nextBoolean()) {
            s.append("floor ").append(1 + random.nextInt(20)).append(' ').append(1 + random.nextInt(20)).append(" hard ")
                    .append(random.nextInt(10)).append(";");
        }
        int works = random.nextInt(4);
        int parts = 0;
        for (int w = 0; w < works; w++) {
            s.append(" work ").append("w").append((char) ('a' + w)).append(";\n");
            int own = random.nextInt(6);
            for (int i = 0; i < own && parts < 12; i++) {
                parts++;
                appendPart(s, parts);
            }
        }
        return s.toString();
    }

    private void appendPart(StringBuilder s, int number) {
        boolean note = random.nextInt(3) == 0;
        s.append(note ? "note" : "part").append(" p").append((char) ('a' + number)).append(" at ").append(random.nextInt(5))
                .append(' ').append(random.nextInt(5)).append(' ');
        int counts = random.nextInt(12) == 0 ? 30 + random.nextInt(3) : 1 + random.nextInt(8);
        String letters = note ? "abcdefgh" : "neswox";
        for (int i = 0; i < counts; i++) {
            s.append(letters.charAt(random.nextInt(letters.length())));
            if (random.nextInt(4) == 0) s.append(' ');
        }
        s.append(';');
    }

    private String rulesText() {
        StringBuilder s = new StringBuilder();
        if (random.nextInt(3) == 0) s.append("may when ").append(expression(0)).append("; ");
        if (random.nextInt(3) > 0) s.append("cost ").append(expression(0)).append("; ");
        if (random.nextInt(3) == 0) s.append("teach when ").append(expression(0)).append("; ");
        return s.toString();
    }

    private String expression(int depth) {
        StringBuilder s = new StringBuilder(one(depth));
        for (int i = 0; i < 2 && random.nextInt(4) == 0; i++) {
            s.append(random.nextBoolean() ? " and " : " or ").append(one(depth));
        }
        return s.toString();
    }

    private String one(int depth) {
        if (random.nextInt(6) == 0) return "not " + one(depth + 1);
        String s = sum(depth);
        return random.nextInt(3) == 0 ? s + " " + "<>=".charAt(random.nextInt(3)) + " " + sum(depth) : s;
    }

    private String sum(int depth) {
        StringBuilder s = new StringBuilder(unit(depth));
        for (int i = 0; i < 3 && random.nextInt(2) == 0; i++) {
            s.append("+-*".charAt(random.nextInt(3))).append(unit(depth));
        }
        return s.toString();
    }

    private String unit(int depth) {
        String[] asks = {"body", "part", "known", "last", "load", "idle", "heavy", "hard", "day", "counts"};
        int what = random.nextInt(depth < 8 ? 8 : 7);
        if (what < 5) return asks[random.nextInt(asks.length)];
        if (what < 7) return "" + (random.nextInt(8) == 0 ? random.nextInt(10000) : random.nextInt(9)) + " ";
        return "(" + expression(depth + 1) + ")";
    }
}
