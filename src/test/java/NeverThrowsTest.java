import java.util.Random;

/** Any arguments in any state: no call throws, and none answers what the document has no place for. */
public final class NeverThrowsTest {
    private static final Due due = new Due("NeverThrowsTest");
    private static final int RUNS = 150;
    private static final int CALLS = 700;
    private static final int[] ODD = {Integer.MIN_VALUE, Integer.MIN_VALUE + 1, -1000, -2, -1, 20, 21, 31, 32, 33, 63, 64, 199, 200, 201, 600, 601,
        998, 999, 1000, 1001, 1400, 1401, 4095, 4096, 99999, 100000, 100001, Integer.MAX_VALUE - 1, Integer.MAX_VALUE};
    private static final String[] BITS = {"floor ", "hard ", "work ", "part ", "note ", "at ", "may when ", "teach when ", "cost ", "and ", "or ", "not ",
        "body ", "known ", "last ", "load ", "idle ", "heavy ", "day ", "counts ", "a ", "b ", "nesw ", "ox ", "0 ", "5 ", "19 ", "9999 ", ";", ";",
        ";", "(", ")", "<", ">", "=", "+", "-", "*", "?", "\n", "\u00ff", "abcdefghi", "((((((((", "not not not not not not not not "};

    private final Random random;
    private final DanceCompany x;

    private NeverThrowsTest(int seed) {
        random = new Random(seed);
        x = random.nextInt(4) == 0 ? new DanceCompany() : Due.company("floor 5 5 hard 9;" + EdgeWorksTest.workOf("a", "note", 8, "at 1 1 abcdefgh")
                + EdgeWorksTest.workOf("b", "part", 3, "at 19 19 nnnnnnnnnnnnnnnnnnnnnnnnnnnnnnnn") + "work c;work d;part e at 0 0 x;", 10);
    }

    public static void main(String[] args) {
        for (int run = 0; run < RUNS; run++) {
            new NeverThrowsTest(run).go(run);
        }
        due.end();
    }

    private void go(int run) {
        for (int call = 0; call < CALLS; call++) {
            int what = random.nextInt(44);
            long answer;
            try {
                answer = what < 20 ? tell(what) : ask(what);
            } catch (RuntimeException e) {
                due.is("run " + run + ", call " + call + " of kind " + what + " threw " + e, 1, 0);
                return;
            }
            due.is("run " + run + ", call " + call + " of kind " + what + " answered " + answer, answer >= -2 || what == 27, true);
        }
    }

    private int any() {
        int kind = random.nextInt(12);
        return kind == 0 ? random.nextInt() : kind == 1 ? ODD[random.nextInt(ODD.length)] : kind < 8 ? random.nextInt(5) : random.nextInt(14);
    }

    private void text() {
        StringBuilder s = new StringBuilder();
        int many = random.nextInt(60);
        for (int i = 0; i < many; i++) {
            s.append(BITS[random.nextInt(BITS.length)]);
        }
        Due.tape(x, s.length() > 1400 ? s.substring(0, 1400) : s.toString());
    }

    private long tell(int what) {
        switch (what) {
            case 0: return x.feed(random.nextInt(), any(), any(), any(), any());
            case 1: return x.end(any());
            case 2: text(); return x.works();
            case 3: text(); return x.rules(any());
            case 4: Due.tape(x, "cost 1" + "+1*known".repeat(random.nextInt(32)) + ";"); return x.rules(any());
            case 5: return x.reads(any(), any(), any()) ? 1 : 0;
            case 6: return x.body();
            case 7: case 8: case 9: return x.knows(any(), any(), any());
            case 10: case 11: return x.danced(any(), any(), any());
            case 12: return x.out(any(), any(), any());
            case 13: return x.leaves(any(), any());
            case 14: return x.film(any(), any(), any());
            case 15: return x.untell(any()) ? 1 : 0;
            case 16: return x.later(any());
            case 17: return x.rehearse(any(), any());
            case 18: return x.rooms(any()) ? 1 : 0;
            default: return x.rules(any());
        }
    }

    private long ask(int what) {
        switch (what) {
            case 20: return x.part(any(), any());
            case 21: return x.step(any(), any(), any());
            case 22: return x.where(any(), any(), any());
            case 23: return x.meet(any(), any());
            case 24: return x.breaks(any(), any(), any(), any());
            case 25: return x.load(any(), any());
            case 26: return x.like(any(), any(), any());
            case 27: return x.cost(any(), any(), any());
            case 28: return x.rival(any());
            case 29: return x.borne(any(), any(), any());
            case 30: return x.asked(any(), any(), any(), any(), any());
            case 31: return x.can(any(), any(), any(), any());
            case 32: return x.cast(any(), any(), any());
            case 33: return x.covers(any(), any(), any());
            case 34: return x.fall(any(), any(), any(), any());
            case 35: return x.falls(any(), any(), any(), any());
            case 36: return x.learn(any(), any(), any(), any());
            case 37: return x.week(any());
            case 38: return x.hour(any(), any());
            case 39: return x.live(any(), any(), any());
            case 40: return x.note(any(), any(), any());
            case 41: return x.fault(any());
            default: return x.about(any());
        }
    }
}
