/**
 * The sentences of the document that name a boundary case of bodies and facts: the second part of its terms up
 * to the rules' texts, and promises 16 to 25.
 */
public final class EdgeFactsTest {
    private static final Due due = new Due("EdgeFactsTest");
    private static final int MIN = Integer.MIN_VALUE;
    private static final int MAX = Integer.MAX_VALUE;
    // loads by reader 0: b 1 + 3 + 2, c 3 + 3, d 0 + 1
    private static final String TEXT = "floor 9 9 hard 4;work a;part b at 0 0 nx;note c at 0 0 aab;part d at 0 0 o;";
    private static final int[] ODD_DAYS = {-1, 1000, MIN, MAX};

    public static void main(String[] args) {
        tenBodies();
        twoHundredFacts();
        wrongFacts();
        days();
        times();
        untoldAtOnce();
        asKnown();
        later();
        outBothDays();
        films();
        leastLeaving();
        borne();
        known();
        last();
        load();
        idle();
        wrongAsked();
        twelvePartsTenBodies();
        due.end();
    }

    private static void tenBodies() {
        due.sentence("BODIES, 10 at most. A BODY: a number; NONE: there are 10.");
        DanceCompany x = Due.company(TEXT, 0);
        for (int body = 0; body < 10; body++) {
            due.is("not yet", x.leaves(body, 0), -1);
            due.is("body", x.body(), body);
            due.is("now", x.leaves(body, 0), body);
        }
        due.is("an 11th", x.body(), -1);
        due.is("a 12th", x.body(), -1);
        due.is("ten", x.about(2), 10);
        due.is("no 11th", x.leaves(10, 0), -1);
    }

    private static int tell(DanceCompany x, int kind) {
        switch (kind) {
            case 0: return x.knows(0, 0, 5);
            case 1: return x.danced(0, 0, 5);
            case 2: return x.out(0, 5, 5);
            case 3: return x.leaves(0, 5);
            default: return x.film(1, 1, 0);
        }
    }

    private static void twoHundredFacts() {
        due.sentence("FACTS, 200 at most; the FACT's number; NONE, doing nothing, if it can't be, or there are 200.");
        for (int kind = 0; kind < 5; kind++) {
            DanceCompany x = Due.company(TEXT, 1);
            for (int i = 0; i < 200; i++) {
                due.is("fact", tell(x, i == 199 ? kind : 2), i);
            }
            due.is("a 201st", tell(x, kind), -1);
            due.is("200", x.about(3), 200);
            due.is("there is no 201st", x.untell(200), false);
            due.is("the 200th is untold", x.untell(199), true);
            due.is("it is a fact still", tell(x, kind), -1);
            due.is("200 still", x.about(3), 200);
            due.is("the works anew", Due.works(x, TEXT), 5);
            due.is("none then", x.about(3), 0);
            due.is("there is room again", tell(x, kind), 0);
        }
    }

    private static void wrongFacts() {
        due.sentence("NONE, doing nothing, if it can't be");
        DanceCompany x = Due.company(TEXT, 2);
        for (int wrong : new int[] {2, -1, 10, MIN, MAX}) {
            due.is("knows, body " + wrong, x.knows(wrong, 0, 0), -1);
            due.is("danced, body " + wrong, x.danced(wrong, 0, 0), -1);
            due.is("out, body " + wrong, x.out(wrong, 0, 0), -1);
            due.is("leaves, body " + wrong, x.leaves(wrong, 0), -1);
        }
        for (int wrong : new int[] {3, -1, 12, MIN, MAX}) {
            due.is("knows, part " + wrong, x.knows(0, wrong, 0), -1);
            due.is("danced, part " + wrong, x.danced(0, wrong, 0), -1);
            due.is("film, part " + wrong, x.film(wrong, 1, 0), -1);
        }
        due.is("none came", x.about(3), 0);
        due.is("the first", x.knows(1, 2, 0), 0);
        due.is("the same again is another", x.knows(1, 2, 0), 1);
    }

    private static void days() {
        due.sentence("a day (0 .. 999)");
        DanceCompany x = Due.company(TEXT, 1);
        for (int wrong : ODD_DAYS) {
            due.is("knows " + wrong, x.knows(0, 0, wrong), -1);
            due.is("danced " + wrong, x.danced(0, 0, wrong), -1);
            due.is("out from " + wrong, x.out(0, wrong, 999), -1);
            due.is("out to " + wrong, x.out(0, 0, wrong), -1);
            due.is("out from and to " + wrong, x.out(0, wrong, wrong), -1);
            due.is("leaves " + wrong, x.leaves(0, wrong), -1);
        }
        int fact = 0;
        for (int day : new int[] {0, 999}) {
            due.is("knows " + day, x.knows(0, 0, day), fact++);
            due.is("danced " + day, x.danced(0, 0, day), fact++);
            due.is("out " + day, x.out(0, day, day), fact++);
            due.is("leaves " + day, x.leaves(0, day), fact++);
        }
        due.is("out all days", x.out(0, 0, 999), fact);
    }

    private static void times() {
        due.sentence("TOLD at a TIME (0 at first, goes on), UNTOLD at a later one or the same");
        DanceCompany x = Due.company(TEXT, 1);
        due.is("the time at first", x.about(6), 0);
        x.knows(0, 0, 0);
        due.is("told at 0", x.can(0, 0, 0, 0), 1);
        due.is("not ahead of 0", x.can(0, 0, 0, -1), 0);
        x.later(3);
        x.knows(0, 2, 0);
        due.is("told at 3", x.can(0, 2, 0, 3), 1);
        due.is("not at 2", x.can(0, 2, 0, 2), 0);
        due.sentence("A FACT is UNTOLD: true; false if it is so already, or there is none such.");
        due.is("untold", x.untell(0), true);
        due.is("so already", x.untell(0), false);
        x.later(1);
        due.is("so already", x.untell(0), false);
        due.is("untold at 3, not at 4", x.can(0, 0, 0, 3), 0);
        due.is("told at 2", x.can(0, 0, 0, 2), 1);
        for (int wrong : new int[] {2, -1, 199, 200, MIN, MAX}) {
            due.is("none such " + wrong, x.untell(wrong), false);
        }
        due.is("the other is untold", x.untell(1), true);
        due.is("it was known at 3", x.can(0, 2, 0, 3), 1);
        due.is("not at 4", x.can(0, 2, 0, 4), 0);
    }

    private static void untoldAtOnce() {
        due.sentence("those count that were TOLD at k or before, not UNTOLD at k or before");
        DanceCompany x = Due.company(TEXT, 1);
        x.later(5);
        x.knows(0, 0, 0);
        x.untell(0);
        for (int k : new int[] {MIN, -1, 0, 4, 5, 6, MAX}) {
            due.is("untold at the same time, as known at " + k, x.can(0, 0, 0, k), 0);
        }
    }

    /** 1 if the fact that tell() told of this kind counts. */
    private static int isSeen(DanceCompany x, int kind, int k) {
        switch (kind) {
            case 0: return x.asked(0, 0, 5, 0, k) == 0 ? 1 : 0;
            case 1: return x.asked(0, 0, 6, 1, k) == 1 ? 1 : 0;
            case 2: case 3: return 1 - x.can(0, 2, 5, k);
            default: return x.borne(1, 0, k);
        }
    }

    private static void asKnown() {
        due.sentence("AS KNOWN at k those count that were TOLD at k or before, not UNTOLD at k or before");
        for (int kind = 0; kind < 5; kind++) {
            DanceCompany x = Due.company(TEXT, 1);
            x.knows(0, 2, 0);
            x.later(10);
            int fact = tell(x, kind);
            x.later(10);
            due.is("told at 10, known at 9", isSeen(x, kind, 9), 0);
            due.is("told at 10, known at 10", isSeen(x, kind, 10), 1);
            due.is("told at 10, known at 20", isSeen(x, kind, 20), 1);
            due.is("told at 10, known at 21", isSeen(x, kind, 21), 1);
            due.is("told at 10, known at the greatest", isSeen(x, kind, MAX), 1);
            due.is("untell", x.untell(fact), true);
            x.later(10);
            due.is("untold at 20, known at 9", isSeen(x, kind, 9), 0);
            due.is("untold at 20, known at 10", isSeen(x, kind, 10), 1);
            due.is("untold at 20, known at 19", isSeen(x, kind, 19), 1);
            due.is("untold at 20, known at 20", isSeen(x, kind, 20), 0);
            due.is("untold at 20, known at 21", isSeen(x, kind, 21), 0);
            due.is("untold at 20, known at the greatest", isSeen(x, kind, MAX), 0);
        }
    }

    private static void later() {
        due.sentence("So much later (0 .. 1000): the TIME; NONE, doing nothing, for another number, or if it would be above 100,000.");
        DanceCompany x = new DanceCompany();
        due.is("0", x.later(0), 0);
        due.is("1", x.later(1), 1);
        for (int wrong : new int[] {-1, 1001, MIN, MAX}) {
            due.is("later " + wrong, x.later(wrong), -1);
            due.is("the time", x.about(6), 1);
        }
        for (int i = 1; i < 100; i++) {
            due.is("1000", x.later(1000), 1000 * i + 1);
        }
        due.is("it would be 100001", x.later(1000), -1);
        due.is("the time", x.about(6), 99001);
        due.is("it would be 100000", x.later(999), 100000);
        due.is("it would be 100001", x.later(1), -1);
        due.is("0", x.later(0), 100000);
        Due.works(x, TEXT);
        x.body();
        due.is("told at the last time", x.knows(0, 0, 0), 0);
        due.is("it counts", x.can(0, 0, 0, 100000), 1);
        due.is("not ahead", x.can(0, 0, 0, 99999), 0);
    }

    private static void outBothDays() {
        due.sentence("OUT: a BODY is out from a day to another one (both); the second day not below the first");
        DanceCompany x = Due.company(TEXT, 2);
        x.knows(0, 0, 0);
        x.knows(1, 0, 0);
        due.is("backwards", x.out(0, 5, 4), -1);
        due.is("backwards", x.out(0, 999, 0), -1);
        due.is("one day", x.out(0, 5, 5), 2);
        due.is("three days", x.out(0, 10, 12), 3);
        due.is("overlapping", x.out(0, 12, 13), 4);
        int[] out = {5, 10, 11, 12, 13};
        int[] in = {0, 4, 6, 9, 14, 999};
        for (int day : out) {
            due.is("out on " + day, x.can(0, 0, day, 0), 0);
            due.is("not the other on " + day, x.can(1, 0, day, 0), 1);
        }
        for (int day : in) {
            due.is("in on " + day, x.can(0, 0, day, 0), 1);
        }
        x.out(1, 0, 0);
        x.out(1, 999, 999);
        due.is("on day 0", x.can(1, 0, 0, 0), 0);
        due.is("on day 1", x.can(1, 0, 1, 0), 1);
        due.is("on day 998", x.can(1, 0, 998, 0), 1);
        due.is("on day 999", x.can(1, 0, 999, 0), 0);
    }

    private static void films() {
        due.sentence("FILM: what was seen of a note at a count (1 ..): a step 0 .. 5 (a note's counts alone)");
        DanceCompany x = Due.company(TEXT, 0);
        for (int wrong : new int[] {0, 4, -1, 32, 33, MIN, MAX}) {
            due.is("count " + wrong, x.film(1, wrong, 0), -1);
        }
        for (int wrong : new int[] {6, -1, MIN, MAX}) {
            due.is("step " + wrong, x.film(1, 1, wrong), -1);
        }
        due.is("no note", x.film(0, 1, 0), -1);
        due.is("no note", x.film(2, 1, 4), -1);
        due.is("none came", x.about(3), 0);
        due.is("count 1, step 0", x.film(1, 1, 0), 0);
        due.is("count 3, step 5", x.film(1, 3, 5), 1);
        DanceCompany y = Due.company("work a;note b at 0 0 " + "h".repeat(32) + ";", 0);
        due.is("count 32", y.film(0, 32, 4), 0);
        due.is("count 33", y.film(0, 33, 4), -1);
    }

    private static void leastLeaving() {
        due.sentence("LEAVES: a BODY is gone from a day on (the least of those that count)");
        int[][] orders = {{10, 20, 15}, {20, 10, 15}, {15, 20, 10}};
        for (int[] order : orders) {
            DanceCompany x = Due.company(TEXT, 2);
            x.knows(0, 0, 0);
            x.knows(1, 0, 0);
            int least = -1;
            for (int day : order) {
                int fact = x.leaves(0, day);
                least = day == 10 ? fact : least;
            }
            x.later(1);
            x.untell(least);
            due.is("ahead of the least", x.can(0, 0, 9, 0), 1);
            due.is("on the least", x.can(0, 0, 10, 0), 0);
            due.is("on the last day", x.can(0, 0, 999, 0), 0);
            due.is("not the other", x.can(1, 0, 999, 0), 1);
            due.is("the least does not count", x.can(0, 0, 14, 1), 1);
            due.is("the next does", x.can(0, 0, 15, 1), 0);
        }
    }

    private static void borne() {
        due.sentence("BORNE OUT of a note by a READER: how many FILMS of it that count tell the step that the READER reads");
        DanceCompany x = Due.company("work a;note b at 0 0 ab;note c at 0 0 ab;part d at 0 0 n;", 0);
        due.is("none", x.borne(0, 0, 0), 0);
        x.film(0, 1, 0);
        x.film(0, 1, 0);
        x.film(0, 1, 1);
        x.film(0, 2, 1);
        x.film(1, 1, 0);
        due.is("each film counts", x.borne(0, 0, 0), 3);
        due.is("of another note", x.borne(1, 0, 0), 1);
        x.reads(1, 0, 1);
        due.is("by reader 1", x.borne(0, 1, 0), 2);
        due.is("by reader 0 still", x.borne(0, 0, 0), 3);
        due.sentence("BORNE OUT; NONE if one is none, or no note.");
        due.is("no note", x.borne(2, 0, 0), -1);
        for (int wrong : new int[] {3, -1, MIN, MAX}) {
            due.is("part " + wrong, x.borne(wrong, 0, 0), -1);
            due.is("reader " + wrong, x.borne(0, wrong, 0), -1);
        }
        due.is("reader 2", x.borne(0, 2, 0), -1);
    }

    private static void known() {
        due.sentence("known: for how many days it knows it (0: from that day on; 999 if it does not, or if more)");
        DanceCompany x = Due.company(TEXT, 2);
        due.is("it does not", x.asked(0, 0, 5, 0, 0), 999);
        x.knows(0, 0, 5);
        due.is("on the day ahead", x.asked(0, 0, 4, 0, 0), 999);
        due.is("from that day on", x.asked(0, 0, 5, 0, 0), 0);
        due.is("a day later", x.asked(0, 0, 6, 0, 0), 1);
        due.is("on the last day", x.asked(0, 0, 999, 0, 0), 994);
        x.knows(0, 0, 8);
        due.is("from the earlier day on", x.asked(0, 0, 8, 0, 0), 3);
        x.knows(0, 0, 0);
        due.is("from day 0 on", x.asked(0, 0, 0, 0, 0), 0);
        due.is("for 998 days", x.asked(0, 0, 998, 0, 0), 998);
        due.is("for 999 days", x.asked(0, 0, 999, 0, 0), 999);
        due.is("another body", x.asked(1, 0, 8, 0, 0), 999);
        due.is("another part", x.asked(0, 1, 8, 0, 0), 999);
        x.leaves(0, 0);
        x.out(0, 0, 999);
        due.is("gone and out, it knows it", x.asked(0, 0, 8, 0, 0), 8);
    }

    private static void last() {
        due.sentence("last: days since it danced it (before that day; 999 if never, or more)");
        DanceCompany x = Due.company(TEXT, 2);
        due.is("never", x.asked(0, 0, 5, 1, 0), 999);
        x.danced(0, 0, 5);
        due.is("ahead", x.asked(0, 0, 4, 1, 0), 999);
        due.is("on that day", x.asked(0, 0, 5, 1, 0), 999);
        due.is("a day later", x.asked(0, 0, 6, 1, 0), 1);
        due.is("another body", x.asked(1, 0, 6, 1, 0), 999);
        due.is("another part", x.asked(0, 2, 6, 1, 0), 999);
        x.danced(0, 0, 8);
        x.danced(0, 0, 7);
        due.is("since the latest", x.asked(0, 0, 10, 1, 0), 2);
        due.is("since the latest ahead of it", x.asked(0, 0, 8, 1, 0), 1);
        x.danced(1, 0, 0);
        due.is("998 days", x.asked(1, 0, 998, 1, 0), 998);
        due.is("999 days", x.asked(1, 0, 999, 1, 0), 999);
    }

    private static void load() {
        due.sentence("load: of all that it danced on the 7 days ahead (READER 0)");
        DanceCompany x = Due.company(TEXT, 2);
        x.danced(0, 0, 20);
        due.is("ahead of it", x.asked(0, 2, 19, 2, 0), 0);
        due.is("on that day", x.asked(0, 2, 20, 2, 0), 0);
        due.is("a day later", x.asked(0, 2, 21, 2, 0), 6);
        due.is("7 days later", x.asked(0, 2, 27, 2, 0), 6);
        due.is("8 days later", x.asked(0, 2, 28, 2, 0), 0);
        due.is("another body", x.asked(1, 0, 21, 2, 0), 0);
        x.danced(0, 0, 20);
        x.danced(0, 1, 21);
        x.danced(0, 2, 27);
        due.is("each time counts", x.asked(0, 0, 27, 2, 0), 6 + 6 + 6);
        due.is("two days of the seven", x.asked(0, 0, 28, 2, 0), 6 + 1);
        x.reads(1, 0, 5);
        due.is("not by reader 1", x.asked(0, 0, 28, 2, 0), 6 + 1);
        x.reads(0, 0, 5);
        due.is("by reader 0", x.asked(0, 0, 28, 2, 0), 10 + 1);
        x.danced(1, 2, 0);
        due.is("on day 0", x.asked(1, 0, 0, 2, 0), 0);
        due.is("on day 1", x.asked(1, 0, 1, 2, 0), 1);
        due.is("on day 7", x.asked(1, 0, 7, 2, 0), 1);
        due.is("on day 8", x.asked(1, 0, 8, 2, 0), 0);
    }

    private static void idle() {
        due.sentence("idle: days since it danced anything (999)");
        DanceCompany x = Due.company(TEXT, 2);
        due.is("never", x.asked(0, 0, 5, 3, 0), 999);
        x.danced(0, 2, 5);
        due.is("on that day", x.asked(0, 0, 5, 3, 0), 999);
        due.is("a day later", x.asked(0, 0, 6, 3, 0), 1);
        x.danced(0, 1, 9);
        x.danced(0, 0, 7);
        due.is("since the latest of all", x.asked(0, 2, 12, 3, 0), 3);
        due.is("since the latest ahead of it", x.asked(0, 2, 9, 3, 0), 2);
        due.is("another body", x.asked(1, 2, 12, 3, 0), 999);
        x.danced(1, 0, 0);
        due.is("998 days", x.asked(1, 0, 998, 3, 0), 998);
        due.is("999 days", x.asked(1, 0, 999, 3, 0), 999);
    }

    private static void wrongAsked() {
        due.sentence("What RULES ask of a BODY and a PART on a day: what 0: known, 1: last, 2: load, 3: idle. NONE if one is none.");
        DanceCompany x = Due.company(TEXT, 2);
        x.knows(1, 2, 0);
        for (int what = 0; what < 4; what++) {
            due.is("what " + what, x.asked(1, 2, 999, what, 0), what == 2 ? 0 : 999);
            for (int wrong : new int[] {-1, MIN, MAX}) {
                due.is("body " + wrong, x.asked(wrong, 0, 0, what, 0), -1);
                due.is("part " + wrong, x.asked(0, wrong, 0, what, 0), -1);
                due.is("day " + wrong, x.asked(0, 0, wrong, what, 0), -1);
            }
            due.is("body 2", x.asked(2, 0, 0, what, 0), -1);
            due.is("part 3", x.asked(0, 3, 0, what, 0), -1);
            due.is("day 1000", x.asked(0, 0, 1000, what, 0), -1);
        }
        for (int wrong : new int[] {4, -1, MIN, MAX}) {
            due.is("what " + wrong, x.asked(1, 2, 5, wrong, 0), -1);
        }
    }

    private static void twelvePartsTenBodies() {
        due.sentence("BODIES, 10 at most; PARTS, 12 in all: the last of both");
        DanceCompany x = Due.company(EdgeWorksTest.workOf("a", "part", 8, "at 0 0 nn") + EdgeWorksTest.workOf("b", "part", 4, "at 0 0 nnn"), 10);
        x.knows(9, 11, 3);
        x.danced(9, 11, 4);
        due.is("known", x.asked(9, 11, 5, 0, 0), 2);
        due.is("last", x.asked(9, 11, 5, 1, 0), 1);
        due.is("load", x.asked(9, 11, 5, 2, 0), 3);
        due.is("idle", x.asked(9, 0, 5, 3, 0), 1);
        due.is("can", x.can(9, 11, 5, 0), 1);
        due.is("learn from it", x.learn(8, 11, 5, 0), 3);
        x.knows(8, 0, 0);
        due.is("learn from it", x.learn(8, 11, 5, 0), 1);
        due.is("it learns", x.learn(9, 0, 5, 0), 0);
        due.is("it learns what nobody knows", x.learn(9, 1, 5, 0), -1);
    }
}
