/** The sentences of the document that name a boundary case of casts: the third part of its terms, promises 26 to 32. */
public final class EdgeCastTest {
    private static final Due due = new Due("EdgeCastTest");
    private static final int MIN = Integer.MIN_VALUE;
    private static final int MAX = Integer.MAX_VALUE;
    private static final long NO_COST = -1000000000000L;
    private static final String TWO = "work a;part b at 0 0 n;part c at 1 0 n;";
    private static final String THREE = TWO + "part d at 2 0 n;";

    public static void main(String[] args) {
        can();
        another();
        asManyAsParts();
        least();
        asLong();
        firstOfLike();
        noneSuch();
        emptyWork();
        ofItsWork();
        covers();
        fallFewest();
        fallOfLike();
        fallNone();
        fallNotInIt();
        fallCostly();
        learn();
        teachers();
        wrong();
        due.end();
    }

    /** Pairs of a body and a part that it knows from day 0 on. */
    private static DanceCompany knowing(String works, int bodies, int[]... pairs) {
        DanceCompany x = Due.company(works, bodies);
        for (int[] pair : pairs) {
            x.knows(pair[0], pair[1], 0);
        }
        return x;
    }

    private static DanceCompany allKnowing(String works, int bodies) {
        DanceCompany x = Due.company(works, bodies);
        for (int body = 0; body < bodies; body++) {
            for (int part = 0; part < x.about(1); part++) {
                x.knows(body, part, 0);
            }
        }
        return x;
    }

    private static void isCast(String what, DanceCompany x, int day, int... bodies) {
        for (int part = 0; part < bodies.length; part++) {
            due.is(what + ", part " + part, x.cast(part, day, 0), bodies[part]);
        }
    }

    private static void isFall(String what, DanceCompany x, int body, int changes, int... bodies) {
        due.is(what, x.fall(0, body, 0, 0), changes);
        for (int part = 0; part < bodies.length; part++) {
            due.is(what + ", part " + part, x.falls(part, body, 0, 0), bodies[part]);
        }
    }

    private static void can() {
        due.sentence("CAN: a BODY can dance a PART on a day, as known at k, if it knows it, is not out, has not left, and may holds.");
        DanceCompany x = Due.company(TWO, 2);
        x.knows(0, 0, 10);
        x.out(0, 20, 21);
        x.leaves(0, 30);
        Due.rules(x, "may when body = 0;", 0);
        Due.rules(x, "may when body = 1;", 25);
        Due.rules(x, "may when body < 2;", 27);
        int[][] want = {{9, 0}, {10, 1}, {19, 1}, {20, 0}, {21, 0}, {22, 1}, {24, 1}, {25, 0}, {26, 0}, {27, 1}, {29, 1}, {30, 0}, {999, 0}};
        for (int[] pair : want) {
            due.is("day " + pair[0], x.can(0, 0, pair[0], 0), pair[1]);
            due.is("another part, day " + pair[0], x.can(0, 1, pair[0], 0), 0);
            due.is("another body, day " + pair[0], x.can(1, 0, pair[0], 0), 0);
        }
        due.is("as known ahead of it", x.can(0, 0, 10, -1), 0);
        due.sentence("1 if a BODY CAN, else 0; NONE likewise.");
        for (int odd : new int[] {2, -1, MIN, MAX}) {
            due.is("body " + odd, x.can(odd, 0, 10, 0), -1);
            due.is("part " + odd, x.can(0, odd, 10, 0), -1);
        }
        for (int odd : new int[] {1000, -1, MIN, MAX}) {
            due.is("day " + odd, x.can(0, 0, odd, 0), -1);
        }
    }

    private static void another() {
        due.sentence("A CAST of a WORK on a day: for each PART another BODY that can");
        DanceCompany x = knowing(TWO, 2, new int[] {0, 0}, new int[] {0, 1});
        due.is("one for both is none", x.cost(0, 0, 0), NO_COST);
        isCast("none", x, 0, -1, -1);
        x.knows(1, 0, 0);
        isCast("1 and 0", x, 0, 1, 0);
        x.knows(1, 1, 5);
        isCast("1 and 0 still", x, 4, 1, 0);
        isCast("0 and 1", x, 5, 0, 1);
        DanceCompany y = Due.company("work a;part b at 0 0 n;work c;part d at 0 0 n;", 1);
        y.knows(0, 0, 0);
        y.knows(0, 1, 0);
        due.is("of two works it may be one", y.cast(0, 0, 0), 0);
        due.is("of two works it may be one", y.cast(1, 0, 0), 0);
    }

    private static void asManyAsParts() {
        due.sentence("8 of a WORK; BODIES, 10 at most: the largest casts");
        String eight = EdgeWorksTest.workOf("a", "part", 8, "at 0 0 n");
        due.is("7 bodies for 8 parts", allKnowing(eight, 7).cost(0, 0, 0), NO_COST);
        DanceCompany x = allKnowing(eight, 8);
        due.is("8 bodies for 8 parts", x.cost(0, 0, 0), 0);
        isCast("in their order", x, 0, 0, 1, 2, 3, 4, 5, 6, 7);
        due.is("none covers", x.covers(7, 0, 0), 0);
        due.is("none can fall", x.fall(0, 3, 0, 0), -1);
        DanceCompany y = allKnowing(eight, 10);
        Due.rules(y, "cost 0-body*body*part;", 0);
        isCast("the later the dearer", y, 0, 0, 3, 4, 5, 6, 7, 8, 9);
        due.is("its cost", y.cost(0, 0, 0), -9 - 2 * 16 - 3 * 25 - 4 * 36 - 5 * 49 - 6 * 64 - 7 * 81);
        due.is("two cover", y.covers(0, 0, 0), 2);
        isFall("9 falls", y, 9, 1, 0, 3, 4, 5, 6, 7, 8, 2);
    }

    private static void least() {
        due.sentence("of all the one of the least cost (cost's e, one by one, together)");
        DanceCompany x = allKnowing(TWO, 3);
        Due.rules(x, "cost (body = 0)*(part = 0)*1+(body = 0)*(part = 1)*2+(body = 1)*(part = 0)*3+(body = 1)*(part = 1)*9+(body = 2)*8;", 0);
        due.is("3 + 2", x.cost(0, 0, 0), 5);
        isCast("the dearer for b", x, 0, 1, 0);
        Due.rules(x, "cost 0-body;", 0);
        due.is("below 0", x.cost(0, 0, 0), -3);
        isCast("the first of like ones", x, 0, 1, 2);
        Due.rules(x, "cost part;", 0);
        due.is("by parts alone", x.cost(0, 0, 0), 1);
        isCast("the first of like ones", x, 0, 0, 1);
    }

    private static void asLong() {
        due.sentence("together, as a long");
        DanceCompany x = allKnowing(EdgeWorksTest.workOf("a", "part", 8, "at 0 0 n"), 9);
        Due.rules(x, "cost 8192*8192*32-1;", 0);
        due.is("eight of the greatest", x.cost(0, 0, 0), 8L * MAX);
        Due.rules(x, "cost 8192*8192*32;", 0);
        due.is("eight of the least", x.cost(0, 0, 0), 8L * MIN);
        Due.rules(x, "cost 8192*8192*32-(body > 0);", 0);
        due.is("seven of the greatest and one of the least", x.cost(0, 0, 0), 7L * MAX + MIN);
        due.is("one of the least", x.cast(0, 0, 0), 0);
        Due.rules(x, "cost 8192*8192*32-(body < 8)*(body+1);", 0);
        due.is("it does not wrap", x.cost(0, 0, 0), MIN + 7L * MAX - 1 - 2 - 3 - 4 - 5 - 6 - 7);
        due.is("the least stands first", x.cast(0, 0, 0), 1);
        due.is("8 stands last", x.cast(7, 0, 0), 8);
    }

    private static void firstOfLike() {
        due.sentence("of like ones the first by BODIES, PART by PART");
        isCast("all like", allKnowing(THREE, 5), 0, 0, 1, 2);
        isCast("b decides ahead of c", knowing(TWO, 3, new int[] {1, 0}, new int[] {2, 0}, new int[] {0, 1}, new int[] {1, 1}), 0, 1, 0);
        isCast("c is left what there is", knowing(TWO, 3, new int[] {0, 0}, new int[] {1, 0}, new int[] {0, 1}), 0, 1, 0);
        DanceCompany x = allKnowing(TWO, 3);
        Due.rules(x, "cost (body = 0)*(part = 0)*2+(body = 2)*(part = 1)*0+(body = 1)*(part = 1)*5+(body = 1)*(part = 0)*2;", 0);
        due.is("2 and 0 cost nothing", x.cost(0, 0, 0), 0);
        isCast("the cheapest is ahead of the first", x, 0, 2, 0);
    }

    private static void noneSuch() {
        due.sentence("none if there is none such; The cost of the CAST; -1000000000000 if there is none, or one is none.");
        DanceCompany x = knowing(TWO, 3, new int[] {0, 0}, new int[] {1, 0}, new int[] {2, 0});
        due.is("nobody for c", x.cost(0, 0, 0), NO_COST);
        due.is("nobody for c: b", x.cast(0, 0, 0), -1);
        due.is("nobody for c: c", x.cast(1, 0, 0), -1);
        due.is("nobody for c: a fall", x.fall(0, 0, 0, 0), -1);
        due.is("no bodies", Due.company(TWO, 0).cost(0, 0, 0), NO_COST);
        due.is("no bodies", Due.company(TWO, 0).cast(0, 0, 0), -1);
        for (int odd : new int[] {1, -1, 4, MIN, MAX}) {
            due.is("work " + odd, x.cost(odd, 0, 0), NO_COST);
        }
        DanceCompany y = allKnowing(TWO, 2);
        for (int odd : new int[] {1000, -1, MIN, MAX}) {
            due.is("day " + odd, y.cost(0, odd, 0), NO_COST);
        }
        due.is("day 999", y.cost(0, 999, 0), 0);
        due.is("as known ahead of all", y.cost(0, 0, -1), NO_COST);
    }

    private static void emptyWork() {
        due.sentence("A CAST of a WORK: for each PART (of none)");
        DanceCompany x = Due.company("work a;work b;part c at 0 0 n;work d;", 1);
        due.is("its cost", x.cost(0, 0, 0), 0);
        due.is("its cost", x.cost(2, 999, 5), 0);
        due.is("a fall", x.fall(0, 0, 0, 0), 0);
        due.is("without bodies", Due.company("work a;", 0).cost(0, 0, 0), 0);
    }

    private static void ofItsWork() {
        due.sentence("The BODY of a PART in the CAST of its WORK on a day; NONE without, or if one is none.");
        DanceCompany x = Due.company("work a;part b at 0 0 n;work c;part d at 0 0 n;part e at 0 0 n;", 3);
        x.knows(2, 0, 0);
        x.knows(0, 1, 0);
        x.knows(1, 2, 0);
        x.leaves(1, 5);
        isCast("of two works", x, 4, 2, 0, 1);
        isCast("without a cast of the second", x, 5, 2, -1, -1);
        for (int odd : new int[] {3, -1, 12, MIN, MAX}) {
            due.is("part " + odd, x.cast(odd, 0, 0), -1);
        }
        for (int odd : new int[] {1000, -1, MIN, MAX}) {
            due.is("day " + odd, x.cast(0, odd, 0), -1);
        }
    }

    private static void covers() {
        due.sentence("COVERS of a PART: BODIES that can dance it and are not in the CAST (all that can, without a CAST); NONE if one is none.");
        DanceCompany x = allKnowing(TWO, 5);
        due.is("three are not in it", x.covers(0, 0, 0), 3);
        x.out(4, 1, 1);
        due.is("one is out", x.covers(1, 1, 0), 2);
        for (int body = 0; body < 4; body++) {
            x.out(body, 2, 2);
        }
        due.is("without a cast all that can", x.covers(0, 2, 0), 1);
        x.out(4, 3, 3);
        x.out(3, 3, 3);
        x.out(2, 3, 3);
        due.is("both are in the cast", x.covers(0, 3, 0), 0);
        x.out(4, 2, 2);
        due.is("nobody can", x.covers(0, 2, 0), 0);
        DanceCompany y = knowing(TWO, 3, new int[] {0, 0}, new int[] {1, 0}, new int[] {1, 1}, new int[] {2, 1});
        due.is("in the cast for another part", y.covers(0, 0, 0), 0);
        due.is("2 covers c", y.covers(1, 0, 0), 1);
        DanceCompany z = allKnowing(TWO, 10);
        Due.rules(z, "cost 0-body;", 0);
        due.is("the first eight cover", z.covers(0, 0, 0), 8);
        z.leaves(0, 5);
        due.is("the first is gone", z.covers(0, 5, 0), 7);
        for (int odd : new int[] {2, -1, 12, MIN, MAX}) {
            due.is("part " + odd, y.covers(odd, 0, 0), -1);
        }
        for (int odd : new int[] {1000, -1, MIN, MAX}) {
            due.is("day " + odd, y.covers(0, odd, 0), -1);
        }
    }

    private static void fallFewest() {
        due.sentence("FALL of a BODY: a CAST without it, in which the fewest PARTS have another BODY than in the CAST with it");
        DanceCompany x = knowing(THREE, 5, new int[] {0, 0}, new int[] {1, 0}, new int[] {4, 0}, new int[] {1, 1}, new int[] {2, 1},
                new int[] {2, 2}, new int[] {3, 2});
        Due.rules(x, "cost (body = 4) * 9999;", 0);
        isCast("the cast", x, 0, 0, 1, 2);
        isFall("one dear change is fewer than three cheap ones", x, 0, 1, 4, 1, 2);
        isFall("two", x, 1, 2, 0, 2, 3);
        isFall("one", x, 2, 1, 0, 1, 3);
        x.leaves(4, 0);
        isFall("three", x, 0, 3, 1, 2, 3);
    }

    private static void fallOfLike() {
        due.sentence("of like ones the least cost, then the first by BODIES");
        DanceCompany x = allKnowing(TWO, 5);
        Due.rules(x, "cost (body = 2) * 4 + (body = 3) * 2 + (body = 4) * 2;", 0);
        isFall("the least cost", x, 0, 1, 3, 1);
        isFall("the least cost", x, 1, 1, 0, 3);
        DanceCompany y = knowing(THREE, 4, new int[] {0, 0}, new int[] {1, 1}, new int[] {2, 2}, new int[] {3, 0}, new int[] {0, 1},
                new int[] {2, 1}, new int[] {3, 2});
        isCast("the cast", y, 0, 0, 1, 2);
        isFall("two and two, the first by bodies", y, 1, 2, 0, 2, 3);
        Due.rules(y, "cost (body = 2) * (part = 1);", 0);
        isFall("two and two, the cheaper", y, 1, 2, 3, 0, 2);
        isFall("all like", allKnowing(THREE, 6), 1, 1, 0, 3, 2);
    }

    private static void fallNone() {
        due.sentence("How many PARTS have another BODY by FALL; NONE if there is none such, or one is none. (Without a CAST: as a CAST without it.)");
        DanceCompany x = allKnowing(TWO, 2);
        due.is("nobody else", x.fall(0, 0, 0, 0), -1);
        due.is("nobody else", x.falls(0, 0, 0, 0), -1);
        due.is("nobody else", x.falls(1, 0, 0, 0), -1);
        DanceCompany y = knowing(TWO, 3, new int[] {0, 0}, new int[] {1, 0}, new int[] {2, 0});
        due.is("without a cast", y.fall(0, 0, 0, 0), -1);
        due.is("without a cast", y.falls(0, 2, 0, 0), -1);
        DanceCompany z = allKnowing(TWO, 3);
        due.is("a fall", z.fall(0, 0, 999, 0), 1);
        for (int odd : new int[] {3, -1, 10, MIN, MAX}) {
            due.is("work " + odd, z.fall(odd, 0, 0, 0), -1);
            due.is("body " + odd, z.fall(0, odd, 0, 0), -1);
            due.is("part " + odd, z.falls(odd, 0, 0, 0), -1);
            due.is("body " + odd, z.falls(0, odd, 0, 0), -1);
        }
        due.is("work 1", z.fall(1, 0, 0, 0), -1);
        due.is("part 2", z.falls(2, 0, 0, 0), -1);
        for (int odd : new int[] {1000, -1, MIN, MAX}) {
            due.is("day " + odd, z.fall(0, 0, odd, 0), -1);
            due.is("day " + odd, z.falls(0, 0, odd, 0), -1);
        }
        due.is("as known ahead of all", z.fall(0, 0, 0, -1), -1);
    }

    private static void fallNotInIt() {
        due.sentence("the fewest PARTS have another BODY: none, of a BODY that is not in the CAST");
        DanceCompany x = allKnowing(TWO, 3);
        isFall("2 is not in it", x, 2, 0, 0, 1);
        DanceCompany y = knowing(TWO, 3, new int[] {0, 0}, new int[] {1, 1});
        isFall("2 knows nothing", y, 2, 0, 0, 1);
        isCast("a fall changes no cast", x, 0, 0, 1);
    }

    private static void fallCostly() {
        due.sentence("the fewest PARTS ahead of the least cost, however large");
        DanceCompany x = allKnowing(THREE, 6);
        Due.rules(x, "cost 8192*8192*32*(body = part or body = part + 1) + (8192*8192*32-1)*(body > 2)*(part = 0);", 0);
        isCast("the cast", x, 0, 0, 1, 2);
        due.is("its cost", x.cost(0, 0, 0), 3L * MIN);
        isFall("one change to the greatest cost, not three to the least", x, 0, 1, 3, 1, 2);
    }

    private static void learn() {
        due.sentence("HOURS to learn a PART for a BODY on a day: its COUNTS less the greatest LIKE (READER 0) of a PART that it knows");
        DanceCompany x = Due.company("work a;part b at 0 0 " + "n".repeat(32) + ";part c at 0 0 ne;work d;note e at 0 0 aaa;part f at 0 0 w;", 2);
        x.knows(1, 0, 0);
        due.is("it knows nothing", x.learn(0, 0, 5, 0), 32);
        x.knows(0, 3, 0);
        due.is("nothing is like", x.learn(0, 0, 5, 0), 32);
        x.knows(0, 1, 6);
        due.is("not known yet", x.learn(0, 0, 5, 0), 32);
        due.is("known from that day on", x.learn(0, 0, 6, 0), 31);
        x.knows(0, 2, 8);
        due.is("the greatest", x.learn(0, 0, 8, 0), 29);
        x.reads(1, 0, 3);
        due.is("not by reader 1", x.learn(0, 0, 8, 0), 29);
        x.reads(0, 0, 3);
        due.is("by reader 0", x.learn(0, 0, 8, 0), 31);
        x.reads(0, 0, 0);
        DanceCompany y = Due.company("work a;part b at 0 0 nn;part c at 0 0 nne;", 2);
        y.knows(0, 1, 0);
        y.knows(1, 0, 0);
        due.is("all of it is like", y.learn(0, 0, 0, 0), 0);
        due.is("one count is not", y.learn(1, 1, 0, 0), 1);
        due.sentence("0 if it knows it");
        due.is("nobody else knows it", y.learn(0, 1, 0, 0), 0);
        due.is("it is the only one", x.learn(1, 0, 999, 0), 0);
        x.leaves(1, 20);
        x.out(1, 20, 20);
        due.is("though gone and out", x.learn(1, 0, 20, 0), 0);
        Due.rules(x, "teach when 0;may when 0;", 0);
        due.is("though nobody may", x.learn(1, 0, 5, 0), 0);
    }

    private static void teachers() {
        due.sentence("none if nobody else who knows it, and is neither out nor gone, may teach it (of that BODY and PART); NONE if there are none, or one is none.");
        DanceCompany x = Due.company(TWO, 3);
        due.is("nobody knows it", x.learn(0, 0, 0, 0), -1);
        x.knows(1, 0, 10);
        due.is("not yet", x.learn(0, 0, 9, 0), -1);
        due.is("from that day on", x.learn(0, 0, 10, 0), 1);
        x.out(1, 12, 13);
        due.is("ahead", x.learn(0, 0, 11, 0), 1);
        due.is("out", x.learn(0, 0, 12, 0), -1);
        due.is("out", x.learn(0, 0, 13, 0), -1);
        due.is("behind", x.learn(0, 0, 14, 0), 1);
        x.leaves(1, 20);
        due.is("ahead", x.learn(0, 0, 19, 0), 1);
        due.is("gone", x.learn(0, 0, 20, 0), -1);
        x.knows(2, 0, 20);
        due.is("another one teaches", x.learn(0, 0, 20, 0), 1);
        Due.rules(x, "teach when known > 2;", 20);
        due.is("it may not yet", x.learn(0, 0, 22, 0), -1);
        due.is("it may", x.learn(0, 0, 23, 0), 1);
        Due.rules(x, "teach when body = 0;", 30);
        due.is("of the one who teaches, not of the one who learns", x.learn(0, 0, 30, 0), -1);
        Due.rules(x, "teach when body = 2 and part = 0;may when 0;", 40);
        due.is("of that body and part", x.learn(0, 0, 40, 0), 1);
        due.is("who learns may be out or gone", x.learn(1, 1, 40, 0), -1);
        x.knows(2, 1, 0);
        due.is("of another part not", x.learn(0, 1, 40, 0), -1);
        due.is("as known ahead of all", x.learn(0, 0, 40, -1), -1);
        for (int odd : new int[] {3, -1, 10, MIN, MAX}) {
            due.is("body " + odd, x.learn(odd, 0, 40, 0), -1);
            due.is("part " + odd, x.learn(0, odd, 40, 0), -1);
        }
        due.is("part 2", x.learn(0, 2, 40, 0), -1);
        for (int odd : new int[] {1000, -1, MIN, MAX}) {
            due.is("day " + odd, x.learn(0, 0, odd, 0), -1);
        }
    }

    private static void wrong() {
        due.sentence("as known at k: any number");
        DanceCompany x = allKnowing(TWO, 3);
        for (int k : new int[] {0, 1, 100000, 100001, MAX}) {
            due.is("can at " + k, x.can(0, 0, 0, k), 1);
            due.is("cost at " + k, x.cost(0, 0, k), 0);
            due.is("cast at " + k, x.cast(1, 0, k), 1);
            due.is("covers at " + k, x.covers(0, 0, k), 1);
            due.is("fall at " + k, x.fall(0, 0, 0, k), 1);
            due.is("falls at " + k, x.falls(0, 0, 0, k), 2);
        }
        for (int k : new int[] {-1, MIN}) {
            due.is("can at " + k, x.can(0, 0, 0, k), 0);
            due.is("cost at " + k, x.cost(0, 0, k), NO_COST);
            due.is("cast at " + k, x.cast(1, 0, k), -1);
            due.is("covers at " + k, x.covers(0, 0, k), 0);
            due.is("fall at " + k, x.fall(0, 0, 0, k), -1);
            due.is("falls at " + k, x.falls(0, 0, 0, k), -1);
        }
    }
}
