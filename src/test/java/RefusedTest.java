import java.util.ArrayList;
import java.util.List;

/**
 * "doing nothing", "all stays", "none come", "the TAPE stays": of two companies that were told the same one gets a
 * call that is refused, and from then on both must answer alike.
 */
public final class RefusedTest {
    private static final Due due = new Due("RefusedTest");
    private static final int MIN = Integer.MIN_VALUE;
    private static final int MAX = Integer.MAX_VALUE;
    private static final String WORKS = "floor 7 6 hard 5;work a;part b at 1 2 nexo;note c at 2 2 abfa;work d;part e at 0 0 ee;note f at 3 3 hh;";

    /** A call, and what it must answer. */
    private interface Refused {
        long on(DanceCompany x);
    }

    public static void main(String[] args) {
        tape();
        texts();
        readers();
        facts();
        fullFacts();
        times();
        rehearsals();
        asking();
        due.end();
    }

    private static DanceCompany told() {
        DanceCompany x = Due.company(WORKS, 3);
        Due.rules(x, "may when idle > 1;cost known * (body + 1);", 2);
        x.reads(1, 0, 5);
        x.rooms(1);
        x.later(2);
        for (int part = 0; part < 4; part++) {
            x.knows(part % 3, part, part);
            x.knows((part + 1) % 3, part, part + 2);
        }
        x.danced(0, 0, 3);
        x.out(1, 5, 6);
        x.film(1, 1, 0);
        x.film(3, 2, 4);
        x.later(3);
        x.leaves(2, 9);
        x.untell(1);
        x.rehearse(0, 5);
        x.rehearse(1, 4);
        x.feed(0x776f726b, 0x20773b20, 0x20202020, 0x20202020, 0x20202020);
        return x;
    }

    /** Full of all that has a limit. */
    private static DanceCompany full() {
        DanceCompany x = told();
        while (x.about(2) < 10) {
            x.body();
        }
        while (x.about(5) < 9) {
            x.rehearse(1, 3);
        }
        for (int i = x.about(3); i < 200; i++) {
            x.danced(9, 0, 999);
        }
        for (int i = x.about(4); i < 6; i++) {
            Due.rules(x, "cost " + i + ";", 900 + i);
        }
        x.feed(0x776f726b, 0x20773b20, 0x20202020, 0x20202020, 0x20202020);
        return x;
    }

    /** What there is to see, but for the fault; the tape is read last, for that changes much. */
    private static List<Long> seen(DanceCompany x) {
        List<Long> all = new ArrayList<>();
        for (int what = 0; what <= 10; what++) {
            all.add((long) x.about(what));
        }
        for (int part = 0; part < 4; part++) {
            all.add((long) x.part(part, 1));
            all.add((long) x.where(part, 32, 0));
            all.add((long) x.where(part, 32, 1));
            all.add((long) x.load(part, 1));
            all.add((long) x.borne(part, 0, 5));
            for (int day : new int[] {2, 4, 6, 10}) {
                all.add((long) x.cast(part, day, 5));
                all.add((long) x.asked(0, part, day, day % 4, 5));
                all.add((long) x.covers(part, day, 2));
            }
        }
        for (int work = 0; work < 2; work++) {
            for (int day : new int[] {3, 5, 9, 999}) {
                all.add(x.cost(work, day, 5));
            }
        }
        for (int i = 0; i < x.about(5); i++) {
            all.add((long) x.hour(i, 5));
        }
        all.add((long) x.live(0, 8, 5));
        all.add((long) x.note(3, 999, 5));
        all.add((long) x.learn(0, 2, 8, 5));
        all.add((long) x.body());
        all.add((long) x.knows(0, 3, 1));
        all.add((long) x.rehearse(0, 0));
        all.add((long) x.rules(1));
        all.add((long) x.works());
        return all;
    }

    private static void same(String call, DanceCompany x, DanceCompany y, Refused refused, long want) {
        due.is(call, refused.on(x), want);
        due.is(call + ", the fault", x.fault(0), y.fault(0));
        due.is(call + ", its place", x.fault(1), y.fault(1));
        List<Long> got = seen(x);
        List<Long> must = seen(y);
        for (int i = 0; i < must.size(); i++) {
            due.is(call + ", then answer " + i, got.get(i), must.get(i));
        }
    }

    private static void refused(String call, Refused refused, long want) {
        same(call, told(), told(), refused, want);
    }

    private static void refusedWhenFull(String call, Refused refused, long want) {
        same(call, full(), full(), refused, want);
    }

    private static void tape() {
        due.sentence("NONE, and nothing comes, if there would be more than 1,400.");
        DanceCompany[] two = {told(), told()};
        for (DanceCompany x : two) {
            while (x.about(7) < 1400) {
                x.feed(0x20202020, 0x20202020, 0x20202020, 0x20202020, 0x20202020);
            }
        }
        same("feed", two[0], two[1], x -> x.feed(1, 2, 3, 4, 5), -1);
        due.sentence("NONE, doing nothing, if it has not so many, or n is below 0.");
        for (int n : new int[] {-1, 21, 1400, MIN, MAX}) {
            refused("end " + n, x -> x.end(n), -1);
        }
    }

    private static void texts() {
        due.sentence("NONE: a FAULT (all stays)");
        String[] faulty = {"work z;?", "floor 1 1 hard 1;work z;part", "work z;work z;", "floor 20 20 hard 10;", "work z;note y at 1 1 a x;",
            "work a;part b at 1 1 n;note c at 0 0 b;work d;part"};
        for (String text : faulty) {
            DanceCompany x = told();
            DanceCompany y = told();
            Due.tape(x, text);
            Due.tape(y, text);
            due.is("works of " + text, x.works(), -1);
            due.is("the tape stays", x.about(7), text.length());
            due.is("the same again", x.works(), -1);
            List<Long> got = seen(x);
            List<Long> must = seen(y);
            for (int i = 0; i < must.size(); i++) {
                due.is("works of " + text + ", then answer " + i, got.get(i), must.get(i));
            }
        }
        due.sentence("NONE: a FAULT (none come)");
        String[] rules = {"cost 9;?", "may when 0;cost 9;teach when 0", "may when 0;may when 0;"};
        for (String text : rules) {
            DanceCompany x = told();
            DanceCompany y = told();
            Due.tape(x, text);
            Due.tape(y, "");
            due.is("rules of " + text, x.rules(2), -1);
            List<Long> got = seen(x);
            List<Long> must = seen(y);
            for (int i = 0; i < must.size(); i++) {
                due.is("rules of " + text + ", then answer " + i, got.get(i), must.get(i));
            }
        }
        due.sentence("-2, and the TAPE stays: more than 600 bytes, no such day, or 6 of them.");
        for (int day : new int[] {-1, 1000, MIN, MAX}) {
            refused("rules from " + day, x -> x.rules(day), -2);
        }
        refusedWhenFull("rules, a 7th", x -> x.rules(0), -2);
        DanceCompany[] two = {told(), told()};
        for (DanceCompany x : two) {
            Due.tape(x, "work a;" + " ".repeat(594));
        }
        same("rules of 601 bytes", two[0], two[1], x -> x.rules(0), -2);
    }

    private static void readers() {
        due.sentence("false, doing nothing, if one can't be.");
        for (int odd : new int[] {-1, MIN, MAX}) {
            refused("reads, reader " + odd, x -> x.reads(odd, 0, 1) ? 1 : 0, 0);
            refused("reads, sign " + odd, x -> x.reads(0, odd, 1) ? 1 : 0, 0);
            refused("reads, step " + odd, x -> x.reads(0, 0, odd) ? 1 : 0, 0);
        }
        refused("reads, reader 2", x -> x.reads(2, 0, 1) ? 1 : 0, 0);
        refused("reads, sign 8", x -> x.reads(0, 8, 1) ? 1 : 0, 0);
        refused("reads, step 6", x -> x.reads(0, 0, 6) ? 1 : 0, 0);
    }

    private static void facts() {
        due.sentence("NONE, doing nothing, if it can't be");
        for (int odd : new int[] {-1, 1000, MIN, MAX}) {
            refused("knows, day " + odd, x -> x.knows(0, 0, odd), -1);
            refused("danced, day " + odd, x -> x.danced(0, 0, odd), -1);
            refused("out, from " + odd, x -> x.out(0, odd, 999), -1);
            refused("out, to " + odd, x -> x.out(0, 0, odd), -1);
            refused("leaves, day " + odd, x -> x.leaves(0, odd), -1);
            refused("film, count " + odd, x -> x.film(1, odd, 0), -1);
            refused("film, step " + odd, x -> x.film(1, 1, odd), -1);
            refused("untell " + odd, x -> x.untell(odd) ? 1 : 0, 0);
        }
        for (int odd : new int[] {-1, 3, MIN, MAX}) {
            refused("knows, body " + odd, x -> x.knows(odd, 0, 0), -1);
            refused("danced, body " + odd, x -> x.danced(odd, 0, 0), -1);
            refused("out, body " + odd, x -> x.out(odd, 0, 0), -1);
            refused("leaves, body " + odd, x -> x.leaves(odd, 0), -1);
        }
        for (int odd : new int[] {-1, 4, MIN, MAX}) {
            refused("knows, part " + odd, x -> x.knows(0, odd, 0), -1);
            refused("danced, part " + odd, x -> x.danced(0, odd, 0), -1);
            refused("film, part " + odd, x -> x.film(odd, 1, 0), -1);
        }
        refused("out, backwards", x -> x.out(0, 6, 5), -1);
        refused("film, no note", x -> x.film(0, 1, 0), -1);
        refused("film, count 0", x -> x.film(1, 0, 0), -1);
        refused("film, count 5", x -> x.film(1, 5, 0), -1);
        refused("film, step 6", x -> x.film(1, 1, 6), -1);
        due.sentence("false if it is so already, or there is none such.");
        refused("untell what is untold", x -> x.untell(1) ? 1 : 0, 0);
        refused("untell what is not", x -> x.untell(x.about(3)) ? 1 : 0, 0);
    }

    private static void fullFacts() {
        due.sentence("or there are 200; NONE: there are 10");
        refusedWhenFull("body", x -> x.body(), -1);
        refusedWhenFull("knows", x -> x.knows(0, 0, 0), -1);
        refusedWhenFull("danced", x -> x.danced(0, 0, 8), -1);
        refusedWhenFull("out", x -> x.out(0, 0, 999), -1);
        refusedWhenFull("leaves", x -> x.leaves(0, 0), -1);
        refusedWhenFull("film", x -> x.film(1, 1, 0), -1);
        refusedWhenFull("untell", x -> x.untell(200) ? 1 : 0, 0);
        refusedWhenFull("rehearse", x -> x.rehearse(0, 0), -1);
    }

    private static void times() {
        due.sentence("NONE, doing nothing, for another number, or if it would be above 100,000.");
        for (int odd : new int[] {-1, 1001, MIN, MAX}) {
            refused("later " + odd, x -> x.later(odd), -1);
        }
        DanceCompany[] two = {told(), told()};
        for (DanceCompany x : two) {
            for (int i = 0; i < 99; i++) {
                x.later(1000);
            }
        }
        same("later 1000 at 99005", two[0], two[1], x -> x.later(1000), -1);
    }

    private static void rehearsals() {
        due.sentence("NONE, doing nothing, if it can't be, or there are 9; false, doing nothing, if it can't be.");
        for (int odd : new int[] {-1, 2, MIN, MAX}) {
            refused("rehearse, work " + odd, x -> x.rehearse(odd, 0), -1);
        }
        for (int odd : new int[] {-1, 1000, MIN, MAX}) {
            refused("rehearse, day " + odd, x -> x.rehearse(0, odd), -1);
        }
        for (int odd : new int[] {-1, 0, 6, MIN, MAX}) {
            refused("rooms " + odd, x -> x.rooms(odd) ? 1 : 0, 0);
        }
    }

    private static void asking() {
        due.sentence("Asking changes nothing.");
        refused("part", x -> x.part(0, 1), 4);
        refused("step", x -> x.step(0, 1, 0), 0);
        refused("where", x -> x.where(0, 0, 0), 101102);
        refused("meet", x -> x.meet(0, 0), -1);
        refused("breaks", x -> x.breaks(0, 0, 20, 20), -1);
        refused("load", x -> x.load(0, 0), 10);
        refused("like", x -> x.like(0, 0, 0), 4);
        refused("rival", x -> x.rival(1), 1);
        refused("borne", x -> x.borne(1, 0, 5), 1);
        refused("asked", x -> x.asked(0, 0, 4, 1, 5), 1);
        refused("can", x -> x.can(0, 0, 4, 5), 0);
        refused("cost", x -> x.cost(0, 9, 5), 9 + 2 * 8);
        refused("cast", x -> x.cast(2, 999, 0), -1);
        refused("covers", x -> x.covers(0, 999, 0), 0);
        refused("fall", x -> x.fall(0, 0, 999, 0), -1);
        refused("falls", x -> x.falls(0, 0, 999, 0), -1);
        refused("learn", x -> x.learn(0, 0, 4, 5), 0);
        refused("week", x -> x.week(5), 2);
        refused("hour", x -> x.hour(1, 5), 1);
        refused("live", x -> x.live(15, 0, 0), 2);
        refused("note", x -> x.note(0, 0, 0), 0);
        refused("about", x -> x.about(2), 3);
        refused("fault", x -> x.fault(0), 0);
    }
}
