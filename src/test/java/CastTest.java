import java.util.Random;

/** Promises 26 to 32: who can, what rules say, casts and their cost, covers, falls, hours to learn. */
public final class CastTest {
    private static final Due due = new Due("CastTest");
    private static final int MIN = Integer.MIN_VALUE;
    private static final int MAX = Integer.MAX_VALUE;
    private static final long NO_COST = -1000000000000L;
    private static final String THREE = "floor 9 9 hard 4;work a;part b at 0 0 nnxo;part c at 1 0 ssss;note d at 2 0 aaff;work e;";

    public static void main(String[] args) {
        can();
        values();
        inForce();
        cheapest();
        firstOfLike();
        laterWork();
        longCosts();
        emptyWork();
        covers();
        falls();
        learn();
        wrong();
        againstModel();
        due.end();
    }

    /** All bodies know all parts from day 0 on. */
    private static DanceCompany knowing(String works, int bodies) {
        DanceCompany x = Due.company(works, bodies);
        for (int body = 0; body < bodies; body++) {
            for (int part = 0; part < x.about(1); part++) {
                x.knows(body, part, 0);
            }
        }
        return x;
    }

    private static void can() {
        DanceCompany x = Due.company(THREE, 2);
        due.is("it does not know it", x.can(0, 0, 9, 0), 0);
        x.knows(0, 0, 9);
        due.is("it knows it", x.can(0, 0, 9, 0), 1);
        due.is("not yet", x.can(0, 0, 8, 0), 0);
        due.is("another body", x.can(1, 0, 9, 0), 0);
        due.is("another part", x.can(0, 1, 9, 0), 0);
        x.out(0, 11, 13);
        due.is("ahead", x.can(0, 0, 10, 0), 1);
        due.is("out", x.can(0, 0, 11, 0), 0);
        due.is("out", x.can(0, 0, 13, 0), 0);
        due.is("behind", x.can(0, 0, 14, 0), 1);
        int late = x.leaves(0, 20);
        x.leaves(0, 30);
        due.is("ahead", x.can(0, 0, 19, 0), 1);
        due.is("gone", x.can(0, 0, 20, 0), 0);
        due.is("gone", x.can(0, 0, 999, 0), 0);
        x.later(1);
        x.untell(late);
        due.is("not gone then", x.can(0, 0, 29, 1), 1);
        due.is("gone as known then", x.can(0, 0, 29, 0), 0);
        due.is("gone", x.can(0, 0, 30, 1), 0);
        Due.rules(x, "may when day < 10;", 0);
        due.is("may", x.can(0, 0, 9, 1), 1);
        due.is("may not", x.can(0, 0, 10, 1), 0);
    }

    /** The cost of body 1 in the only part of a work, by a rule. */
    private static long valueOf(String expression) {
        DanceCompany x = Due.company("floor 9 9 hard 7;work a;part z at 0 0 n;work b;part c at 0 0 nnxo;", 2);
        x.knows(1, 1, 4);
        x.danced(1, 1, 15);
        x.danced(1, 0, 18);
        Due.rules(x, "cost " + expression + ";", 20);
        return x.cost(1, 20, 0);
    }

    private static void values() {
        String[] asks = {"body", "part", "known", "last", "load", "idle", "heavy", "hard", "day", "counts"};
        int[] want = {1, 1, 16, 5, 12 + 2, 2, 12, 7, 20, 4};
        for (int i = 0; i < asks.length; i++) {
            due.is(asks[i], valueOf(asks[i]), want[i]);
        }
        due.is("2 + 3 * 4", valueOf("2 + 3 * 4"), 14);
        due.is("9 - 3 - 2", valueOf("9 - 3 - 2"), 4);
        due.is("9 - (3 - 2)", valueOf("9 - (3 - 2)"), 8);
        due.is("9 - 3 + 2", valueOf("9 - 3 + 2"), 8);
        due.is("1 + 2 < 4", valueOf("1 + 2 < 4"), 1);
        due.is("1 + 2 > 4 - 1", valueOf("1 + 2 > 4 - 1"), 0);
        due.is("1 + 2 = 4 - 1", valueOf("1 + 2 = 4 - 1"), 1);
        due.is("not 1 > 2", valueOf("not 1 > 2"), 1);
        due.is("not 5", valueOf("not 5"), 0);
        due.is("not not 5", valueOf("not not 5"), 1);
        due.is("5 alone stays", valueOf("((5))"), 5);
        due.is("5 and 6", valueOf("5 and 6"), 1);
        due.is("5 and 0", valueOf("5 and 0"), 0);
        due.is("0 or 7", valueOf("0 or 7"), 1);
        due.is("0 or 0", valueOf("0 or 0"), 0);
        due.is("1 or 0 and 0", valueOf("1 or 0 and 0"), 1);
        due.is("(1 or 0) and 0", valueOf("(1 or 0) and 0"), 0);
        due.is("not 0 and 0", valueOf("not 0 and 0"), 0);
        due.is("not (0 and 0)", valueOf("not (0 and 0)"), 1);
        due.is("not 1 or 1", valueOf("not 1 or 1"), 1);
        due.is("(1 < 2) + (3 > 2)", valueOf("(1 < 2) + (3 > 2)"), 2);
        due.is("0 - 1 < 0", valueOf("0 - 1 < 0"), 1);
        due.is("it wraps", valueOf("9999 * 9999 * 9999"), 9999 * 9999 * 9999);
        due.is("it wraps", valueOf("8192*8192*32"), MIN);
        due.is("it wraps", valueOf("8192*8192*32-1"), MAX);
        due.is("wrapped, compared", valueOf("8192*8192*32 < 0"), 1);
    }

    private static void inForce() {
        DanceCompany x = knowing("work a;part b at 0 0 n;", 1);
        due.is("without any", x.cost(0, 500, 0), 0);
        Due.rules(x, "cost 1;", 10);
        Due.rules(x, "cost 2;", 20);
        Due.rules(x, "cost 3;", 10);
        Due.rules(x, "may when 1;", 30);
        due.is("ahead of all", x.cost(0, 9, 0), 0);
        due.is("the last told of that day", x.cost(0, 10, 0), 3);
        due.is("the last told of that day", x.cost(0, 19, 0), 3);
        due.is("the greatest day", x.cost(0, 20, 0), 2);
        due.is("not told there", x.cost(0, 30, 0), 0);
        Due.rules(x, "may when 0; cost 4;", 20);
        due.is("none may", x.cost(0, 25, 0), NO_COST);
        due.is("may again", x.cost(0, 35, 0), 0);
        due.is("rules are in force as known at any time", x.cost(0, 19, -1), NO_COST);
    }

    private static void cheapest() {
        DanceCompany x = knowing(THREE, 4);
        due.is("no cost", x.cost(0, 0, 0), 0);
        Due.rules(x, "cost (body = 0) * 9 + (body = 1) * 5 + (body = 3) * (part = 1) * 7;", 0);
        due.is("the least", x.cost(0, 0, 0), 5);
        due.is("b", x.cast(0, 0, 0), 1);
        due.is("c", x.cast(1, 0, 0), 2);
        due.is("d", x.cast(2, 0, 0), 3);
        x.leaves(2, 5);
        due.is("dearer without", x.cost(0, 5, 0), 14);
        due.is("b", x.cast(0, 5, 0), 0);
        due.is("c", x.cast(1, 5, 0), 1);
        due.is("d", x.cast(2, 5, 0), 3);
        x.out(1, 6, 6);
        due.is("two are too few", x.cost(0, 6, 0), NO_COST);
        due.is("none", x.cast(0, 6, 0), -1);
        due.is("again", x.cost(0, 7, 0), 14);
    }

    private static void firstOfLike() {
        DanceCompany x = Due.company(THREE, 5);
        for (int[] pair : new int[][] {{4, 0}, {1, 0}, {1, 1}, {3, 1}, {0, 2}, {1, 2}, {4, 2}}) {
            x.knows(pair[0], pair[1], 0);
        }
        due.is("b: the first that can", x.cast(0, 0, 0), 1);
        due.is("c: not 1 again", x.cast(1, 0, 0), 3);
        due.is("d", x.cast(2, 0, 0), 0);
        x.leaves(3, 4);
        due.is("b must leave 1 to c", x.cast(0, 4, 0), 4);
        due.is("c", x.cast(1, 4, 0), 1);
        due.is("d", x.cast(2, 4, 0), 0);
        x.leaves(0, 6);
        due.is("nobody for d", x.cast(2, 6, 0), -1);
        DanceCompany y = knowing("work a;part b at 0 0 n;part c at 1 0 n;", 3);
        Due.rules(y, "cost (part = 0) * (2 - body) + (part = 1) * body;", 0);
        due.is("2 and 0 cost 0", y.cost(0, 0, 0), 0);
        due.is("b", y.cast(0, 0, 0), 2);
        due.is("c", y.cast(1, 0, 0), 0);
        Due.rules(y, "cost body;", 0);
        due.is("0 and 1 cost as 1 and 0", y.cast(0, 0, 0), 0);
        due.is("0 and 1 cost as 1 and 0", y.cast(1, 0, 0), 1);
    }

    private static void laterWork() {
        DanceCompany x = knowing("work a;part b at 0 0 n;work c;part d at 0 0 n;part e at 0 0 n;", 4);
        Due.rules(x, "cost (0 - body) * part;", 0);
        due.is("of the work a", x.cast(0, 0, 0), 0);
        due.is("of the work c", x.cast(1, 0, 0), 2);
        due.is("of the work c", x.cast(2, 0, 0), 3);
        due.is("its cost", x.cost(1, 0, 0), -2 - 6);
        due.is("its covers", x.covers(2, 0, 0), 2);
        due.is("its fall", x.fall(1, 3, 0, 0), 1);
        due.is("d stays", x.falls(1, 3, 0, 0), 2);
        due.is("e by another", x.falls(2, 3, 0, 0), 1);
    }

    private static void longCosts() {
        StringBuilder eight = new StringBuilder("work a;");
        for (int i = 0; i < 8; i++) {
            eight.append("part b").append((char) ('a' + i)).append(" at 0 0 n;");
        }
        DanceCompany x = knowing(eight.toString(), 10);
        Due.rules(x, "cost 8192*8192*32-1;", 0);
        due.is("eight of the dearest", x.cost(0, 0, 0), 8L * MAX);
        due.is("the fall of one of them", x.fall(0, 0, 0, 0), 1);
        due.is("by the first that is left", x.falls(0, 0, 0, 0), 8);
        Due.rules(x, "cost 8192*8192*32;", 1);
        due.is("eight of the cheapest", x.cost(0, 1, 0), 8L * MIN);
        due.is("the last", x.cast(7, 1, 0), 7);
        due.is("two cover", x.covers(3, 1, 0), 2);
        Due.rules(x, "cost (0-body)*body;", 2);
        due.is("2 to 9", x.cost(0, 2, 0), -4L - 9 - 16 - 25 - 36 - 49 - 64 - 81);
        due.is("the first is 2", x.cast(0, 2, 0), 2);
        // one body dearest by far: a change of one part is less than a change of two, whatever it costs
        Due.rules(x, "cost (body = 9) * 8192*8192*31 - (body = 8) * part;", 3);
        due.is("without 9", x.cost(0, 3, 0), -7);
        due.is("8 in the last part", x.cast(7, 3, 0), 8);
    }

    private static void emptyWork() {
        DanceCompany x = Due.company("work a;work b;part c at 0 0 n;", 1);
        due.is("no part, no cost", x.cost(0, 0, 0), 0);
        due.is("no part to change", x.fall(0, 0, 0, 0), 0);
        due.is("a part without a body", x.cost(1, 0, 0), NO_COST);
        due.is("no bodies at all", Due.company("work a;", 0).cost(0, 0, 0), 0);
    }

    private static void covers() {
        DanceCompany x = Due.company(THREE, 6);
        due.is("nobody", x.covers(0, 0, 0), 0);
        x.knows(0, 0, 0);
        x.knows(1, 0, 0);
        x.knows(2, 0, 2);
        due.is("without a cast all that can", x.covers(0, 0, 0), 2);
        due.is("without a cast all that can", x.covers(0, 2, 0), 3);
        x.knows(1, 1, 0);
        x.knows(3, 2, 0);
        due.is("0 and 1 are in the cast", x.covers(0, 0, 0), 0);
        due.is("2 covers", x.covers(0, 2, 0), 1);
        due.is("nobody covers c", x.covers(1, 2, 0), 0);
        x.out(2, 3, 3);
        due.is("2 is out", x.covers(0, 3, 0), 0);
    }

    private static void falls() {
        DanceCompany x = Due.company(THREE, 5);
        int[][] pairs = {{0, 0}, {1, 0}, {1, 1}, {2, 1}, {2, 2}, {3, 2}, {4, 0}};
        for (int[] pair : pairs) {
            x.knows(pair[0], pair[1], 0);
        }
        Due.rules(x, "cost (body = 4) * 50 + (body = 3) * 3;", 0);
        due.is("the cast", x.cost(0, 0, 0), 0);
        due.is("0 falls: one change, though it costs 50", x.fall(0, 0, 0, 0), 1);
        due.is("b by 4", x.falls(0, 0, 0, 0), 4);
        due.is("c stays", x.falls(1, 0, 0, 0), 1);
        due.is("d stays", x.falls(2, 0, 0, 0), 2);
        due.is("1 falls: two change", x.fall(0, 1, 0, 0), 2);
        due.is("b stays", x.falls(0, 1, 0, 0), 0);
        due.is("c by 2", x.falls(1, 1, 0, 0), 2);
        due.is("d by 3", x.falls(2, 1, 0, 0), 3);
        due.is("4 is not in it", x.fall(0, 4, 0, 0), 0);
        due.is("so it stays", x.falls(0, 4, 0, 0), 0);
        x.leaves(4, 5);
        due.is("0 falls: all change", x.fall(0, 0, 5, 0), 3);
        due.is("b by 1", x.falls(0, 0, 5, 0), 1);
        due.is("c by 2", x.falls(1, 0, 5, 0), 2);
        due.is("d by 3", x.falls(2, 0, 5, 0), 3);
        x.leaves(3, 6);
        due.is("0 falls: none", x.fall(0, 0, 6, 0), -1);
        due.is("0 falls: none", x.falls(0, 0, 6, 0), -1);
        x.leaves(2, 7);
        due.is("without a cast", x.fall(0, 4, 7, 0), -1);
        DanceCompany y = knowing("work a;part b at 0 0 n;part c at 1 0 n;", 5);
        Due.rules(y, "cost (body = 2) * 4 + (body = 3) * 2 + (body = 4) * 2;", 0);
        due.is("of like changes the cheapest", y.falls(0, 0, 0, 0), 3);
        Due.rules(y, "cost 1;", 0);
        due.is("of like costs the first", y.falls(0, 0, 0, 0), 2);
        due.is("c keeps its body", y.falls(1, 0, 0, 0), 1);
    }

    private static void learn() {
        DanceCompany x = Due.company("work a;part b at 0 0 neswox;part c at 0 0 neso;note d at 0 0 abcd;work e;part f at 0 0 nn;", 3);
        due.is("nobody knows it", x.learn(0, 0, 5, 0), -1);
        x.knows(1, 0, 3);
        due.is("not yet", x.learn(0, 0, 2, 0), -1);
        due.is("all its counts", x.learn(0, 0, 3, 0), 6);
        due.is("it knows it, without another", x.learn(1, 0, 3, 0), 0);
        due.is("nobody else ahead of that", x.learn(1, 0, 2, 0), -1);
        x.knows(0, 1, 4);
        due.is("less what is like", x.learn(0, 0, 4, 0), 3);
        due.is("known later", x.learn(0, 0, 3, 0), 6);
        x.knows(0, 3, 0);
        due.is("a part of another work", x.learn(0, 0, 3, 0), 5);
        due.is("the greatest", x.learn(0, 0, 4, 0), 3);
        x.knows(0, 2, 6);
        due.is("a note by reader 0", x.learn(0, 0, 6, 0), 2);
        x.reads(1, 0, 5);
        due.is("not by reader 1", x.learn(0, 0, 6, 0), 2);
        x.reads(0, 0, 5);
        due.is("by reader 0", x.learn(0, 0, 6, 0), 3);
        x.out(1, 7, 8);
        due.is("the teacher is out", x.learn(0, 0, 7, 0), -1);
        due.is("and back", x.learn(0, 0, 9, 0), 3);
        x.out(0, 9, 9);
        due.is("a learner may be out", x.learn(0, 0, 9, 0), 3);
        x.leaves(1, 10);
        due.is("the teacher is gone", x.learn(0, 0, 10, 0), -1);
        Due.rules(x, "teach when body = 1 and known > 1;may when 0;", 0);
        due.is("too fresh to teach", x.learn(0, 0, 4, 0), -1);
        due.is("may teach", x.learn(0, 0, 5, 0), 3);
        x.knows(2, 1, 0);
        due.is("2 may not teach", x.learn(1, 1, 9, 0), -1);
        DanceCompany y = Due.company("work a;part b at 0 0 neswox;part c at 0 0 nes;", 2);
        y.knows(0, 1, 0);
        y.knows(1, 0, 5);
        due.is("0 teaches", y.learn(1, 1, 0, 0), 3);
        due.is("less what is like b", y.learn(1, 1, 5, 0), 0);
        due.is("less what is like c", y.learn(0, 0, 5, 0), 3);
    }

    private static void wrong() {
        DanceCompany x = knowing(THREE, 3);
        for (int odd : new int[] {-1, 3, 10, MIN, MAX}) {
            due.is("body " + odd, x.can(odd, 0, 0, 0), -1);
            due.is("body " + odd, x.fall(0, odd, 0, 0), -1);
            due.is("body " + odd, x.falls(0, odd, 0, 0), -1);
            due.is("body " + odd, x.learn(odd, 0, 0, 0), -1);
            due.is("part " + odd, x.can(0, odd, 0, 0), -1);
            due.is("part " + odd, x.cast(odd, 0, 0), -1);
            due.is("part " + odd, x.covers(odd, 0, 0), -1);
            due.is("part " + odd, x.falls(odd, 0, 0, 0), -1);
            due.is("part " + odd, x.learn(0, odd, 0, 0), -1);
            due.is("work " + odd, x.cost(odd, 0, 0), NO_COST);
            due.is("work " + odd, x.fall(odd, 0, 0, 0), -1);
        }
        for (int odd : new int[] {-1, 1000, MIN, MAX}) {
            due.is("day " + odd, x.can(0, 0, odd, 0), -1);
            due.is("day " + odd, x.cost(0, odd, 0), NO_COST);
            due.is("day " + odd, x.cast(0, odd, 0), -1);
            due.is("day " + odd, x.covers(0, odd, 0), -1);
            due.is("day " + odd, x.fall(0, 0, odd, 0), -1);
            due.is("day " + odd, x.falls(0, 0, odd, 0), -1);
            due.is("day " + odd, x.learn(0, 0, odd, 0), -1);
        }
        for (int k : new int[] {-1, MIN}) {
            due.is("k " + k, x.can(0, 0, 0, k), 0);
            due.is("k " + k, x.cost(0, 0, k), NO_COST);
        }
        due.is("k far on", x.cost(0, 0, MAX), 0);
    }

    /** Many bodies with random costs, each cast and each fall held against the model, that tries all. */
    private static void againstModel() {
        Random random = new Random(7);
        for (int round = 0; round < 60; round++) {
            int parts = 1 + random.nextInt(5);
            int bodies = parts + random.nextInt(4);
            StringBuilder text = new StringBuilder("work a;");
            for (int i = 0; i < parts; i++) {
                text.append("part b").append((char) ('a' + i)).append(" at 0 0 n;");
            }
            DanceCompany x = Due.company(text.toString(), bodies);
            Model m = new Model();
            sendToModel(m, text.toString());
            m.works();
            for (int i = 0; i < bodies; i++) {
                m.body();
            }
            for (int body = 0; body < bodies; body++) {
                for (int part = 0; part < parts; part++) {
                    int day = random.nextInt(round % 2 == 0 ? 4 : 20);
                    if (random.nextInt(5) > 0) {
                        x.knows(body, part, day);
                        m.knows(body, part, day);
                    }
                }
            }
            Due.rules(x, "cost known;", 0);
            sendToModel(m, "cost known;");
            m.rules(0);
            due.is("cost, round " + round, x.cost(0, 30, 0), m.cost(0, 30, 0));
            for (int part = 0; part < parts; part++) {
                due.is("cast, round " + round, x.cast(part, 30, 0), m.cast(part, 30, 0));
                due.is("covers, round " + round, x.covers(part, 30, 0), m.covers(part, 30, 0));
                for (int body = 0; body < bodies; body++) {
                    due.is("falls, round " + round, x.falls(part, body, 30, 0), m.falls(part, body, 30, 0));
                }
            }
            for (int body = 0; body < bodies; body++) {
                due.is("fall, round " + round, x.fall(0, body, 30, 0), m.fall(0, body, 30, 0));
            }
        }
    }

    private static void sendToModel(Model m, String text) {
        m.tape.clear();
        for (char c : text.toCharArray()) {
            m.tape.add((byte) c);
        }
    }
}
