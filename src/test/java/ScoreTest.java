/** Promises 7 to 15: parts, readers, steps, places, where two meet, breaks, loads, likeness and rivals. */
public final class ScoreTest {
    private static final Due due = new Due("ScoreTest");
    private static final int MIN = Integer.MIN_VALUE;
    private static final int MAX = Integer.MAX_VALUE;
    private static final String TEXT = "floor 6 5 hard 3; work a; part b at 1 2 neswox; note c at 19 0 abcdefgh;"
            + " work d; work e; part f at 0 0 " + "w".repeat(32) + "; part g at 3 0 www;";

    public static void main(String[] args) {
        parts();
        reads();
        steps();
        where();
        meet();
        breaks();
        load();
        like();
        rival();
        due.end();
    }

    private static void parts() {
        DanceCompany x = Due.company(TEXT, 0);
        int[][] want = {{0, 6, 0, 1, 2}, {0, 8, 1, 19, 0}, {2, 32, 0, 0, 0}, {2, 3, 0, 3, 0}};
        for (int part = 0; part < 4; part++) {
            for (int what = 0; what < 5; what++) {
                due.is("part " + part + " " + what, x.part(part, what), want[part][what]);
            }
        }
        for (int odd : new int[] {-1, 4, 12, MIN, MAX}) {
            due.is("part " + odd, x.part(odd, 0), -1);
        }
        for (int odd : new int[] {-1, 5, MIN, MAX}) {
            due.is("part what " + odd, x.part(0, odd), -1);
        }
        due.is("works", x.about(0), 3);
        due.is("wide", x.about(8), 6);
        due.is("deep", x.about(9), 5);
        due.is("hard", x.about(10), 3);
    }

    private static void reads() {
        DanceCompany x = Due.company(TEXT, 0);
        int[] first = {0, 1, 2, 3, 4, 5, 4, 4};
        for (int sign = 0; sign < 8; sign++) {
            due.is("sign " + sign, x.step(1, sign + 1, 0), first[sign]);
            due.is("sign " + sign, x.step(1, sign + 1, 1), first[sign]);
        }
        for (int odd : new int[] {-1, 2, MIN, MAX}) {
            due.is("reader " + odd, x.reads(odd, 0, 0), false);
        }
        for (int odd : new int[] {-1, 8, MIN, MAX}) {
            due.is("sign " + odd, x.reads(0, odd, 0), false);
        }
        for (int odd : new int[] {-1, 6, MIN, MAX}) {
            due.is("step " + odd, x.reads(0, 0, odd), false);
        }
        due.is("reads", x.reads(1, 7, 5), true);
        due.is("reads likewise", x.reads(1, 7, 5), true);
        due.is("as read", x.step(1, 8, 1), 5);
        due.is("the other reader's", x.step(1, 8, 0), 4);
        due.is("reads", x.reads(0, 0, 3), true);
        due.is("as read", x.step(1, 1, 0), 3);
        due.is("a part's n is no sign a", x.step(0, 1, 0), 0);
    }

    private static void steps() {
        DanceCompany x = Due.company(TEXT, 0);
        for (int count = 1; count <= 6; count++) {
            due.is("step " + count, x.step(0, count, 0), count - 1);
            due.is("step " + count, x.step(0, count, 1), count - 1);
        }
        due.is("the 32nd", x.step(2, 32, 0), 3);
        for (int odd : new int[] {-1, 0, 7, 33, MIN, MAX}) {
            due.is("count " + odd, x.step(0, odd, 0), -1);
        }
        for (int odd : new int[] {-1, 2, MIN, MAX}) {
            due.is("reader " + odd, x.step(0, 1, odd), -1);
        }
        for (int odd : new int[] {-1, 4, MIN, MAX}) {
            due.is("part " + odd, x.step(odd, 1, 0), -1);
        }
    }

    private static void where() {
        DanceCompany x = Due.company(TEXT, 0);
        int[] want = {101102, 101101, 102101, 102102, 101102, 101102, 101102, 101102};
        for (int count = 0; count < want.length; count++) {
            due.is("where " + count, x.where(0, count, 0), want[count]);
        }
        due.is("beyond the floor", x.where(2, 32, 1), 68100);
        due.is("behind 31", x.where(2, 31, 1), 69100);
        due.is("north of the floor", x.where(1, 1, 0), 119099);
        due.is("a leap stays", x.where(1, 6, 0), 119100);
        due.is("it stays behind its last", x.where(3, 32, 0), 100100);
        x.reads(1, 0, 2);
        due.is("reader 1", x.where(1, 1, 1), 119101);
        due.is("reader 0", x.where(1, 1, 0), 119099);
        for (int odd : new int[] {-1, 33, MIN, MAX}) {
            due.is("count " + odd, x.where(0, odd, 0), -1);
        }
        for (int odd : new int[] {-1, 2, MIN, MAX}) {
            due.is("reader " + odd, x.where(0, 0, odd), -1);
        }
        for (int odd : new int[] {-1, 4, MIN, MAX}) {
            due.is("part " + odd, x.where(odd, 0, 0), -1);
        }
    }

    private static void meet() {
        due.is("at once", Due.company("work a;part b at 1 1 n;part c at 1 1 s;", 0).meet(0, 0), 0);
        due.is("at one", Due.company("work a;part b at 1 1 e;part c at 3 1 w;", 0).meet(0, 0), 1);
        due.is("they change places", Due.company("work a;part b at 1 1 e;part c at 2 1 w;", 0).meet(0, 0), -1);
        due.is("not of one work", Due.company("work a;part b at 1 1 n;work c;part d at 1 1 n;", 0).meet(0, 0), -1);
        due.is("no parts", Due.company("work a;", 0).meet(0, 0), -1);
        due.is("one alone", Due.company("work a;part b at 1 1 n;", 0).meet(0, 0), -1);
        String late = "work a;part b at 0 0 " + "o".repeat(31) + "e;part c at 9 9 o;part d at 1 0 o;";
        due.is("at the last", Due.company(late, 0).meet(0, 0), 32);
        due.is("one that stays is met", Due.company("work a;part b at 0 0 o;part c at 0 3 nnn;", 0).meet(0, 0), 3);
        DanceCompany x = Due.company("work a;note b at 0 0 a;part c at 1 0 o;", 0);
        due.is("by reader 1 not", x.meet(0, 1), -1);
        x.reads(1, 0, 1);
        due.is("by reader 1", x.meet(0, 1), 1);
        due.is("by reader 0", x.meet(0, 0), -1);
        for (int odd : new int[] {-1, 2, MIN, MAX}) {
            due.is("reader " + odd, x.meet(0, odd), -1);
        }
        for (int odd : new int[] {-1, 1, MIN, MAX}) {
            due.is("work " + odd, x.meet(odd, 1), -1);
        }
    }

    private static void breaks() {
        DanceCompany x = Due.company("work a;part b at 2 3 eesswwwwwnnnnnn;work c;note d at 0 0 a;work e;", 0);
        due.is("at once by its width", x.breaks(0, 0, 2, 20), 0);
        due.is("at once by its depth", x.breaks(0, 0, 20, 3), 0);
        due.is("east", x.breaks(0, 0, 3, 20), 1);
        due.is("east", x.breaks(0, 0, 4, 20), 2);
        due.is("south", x.breaks(0, 0, 20, 4), 3);
        due.is("south", x.breaks(0, 0, 20, 5), 4);
        due.is("west", x.breaks(0, 0, 20, 20), 9);
        due.is("north", x.breaks(1, 0, 20, 20), 1);
        x.reads(1, 0, 4);
        due.is("not by reader 1", x.breaks(1, 1, 1, 1), -1);
        due.is("no parts", x.breaks(2, 0, 1, 1), -1);
        due.is("the narrowest", x.breaks(1, 0, 1, 20), 1);
        due.is("the shallowest", x.breaks(1, 0, 20, 1), 1);
        String late = "work a;part b at 0 0 " + "o".repeat(31) + "w;";
        due.is("at the last", Due.company(late, 0).breaks(0, 0, 20, 20), 32);
        for (int odd : new int[] {-1, 0, 21, MIN, MAX}) {
            due.is("wide " + odd, x.breaks(0, 0, odd, 5), -1);
            due.is("deep " + odd, x.breaks(0, 0, 5, odd), -1);
        }
        for (int odd : new int[] {-1, 2, MIN, MAX}) {
            due.is("reader " + odd, x.breaks(0, odd, 1, 1), -1);
        }
        for (int odd : new int[] {-1, 3, MIN, MAX}) {
            due.is("work " + odd, x.breaks(odd, 0, 1, 1), -1);
        }
        due.is("the told floor is not asked", Due.company("floor 1 1 hard 0;work a;part b at 5 5 n;", 0).breaks(0, 0, 9, 9), -1);
    }

    private static void load() {
        DanceCompany x = Due.company(TEXT, 0);
        due.is("n e s w o x, 6 * 3 / 4", x.load(0, 0), 4 + 3 + 4);
        due.is("a .. h, 8 * 3 / 4", x.load(1, 0), 4 + 3 + 6);
        due.is("32 w", x.load(2, 0), 32 + 24);
        due.is("3 w, cut", x.load(3, 1), 3 + 2);
        x.reads(1, 6, 5);
        due.is("reader 1", x.load(1, 1), 4 + 6 + 6);
        due.is("reader 0", x.load(1, 0), 4 + 3 + 6);
        due.is("not hard", Due.company("work a;part b at 0 0 oonx;", 0).load(0, 0), 4);
        for (int odd : new int[] {-1, 2, MIN, MAX}) {
            due.is("reader " + odd, x.load(0, odd), -1);
        }
        for (int odd : new int[] {-1, 4, MIN, MAX}) {
            due.is("part " + odd, x.load(odd, 0), -1);
        }
    }

    private static void like() {
        DanceCompany x = Due.company("work a;part b at 0 0 nesw;part c at 9 9 nes;note d at 0 0 abdc;work e;part f at 0 0 o;", 0);
        due.is("b c", x.like(0, 1, 0), 3);
        due.is("c b", x.like(1, 0, 0), 3);
        due.is("b b", x.like(0, 0, 0), 4);
        due.is("b d", x.like(0, 2, 0), 2);
        due.is("b f", x.like(0, 3, 0), 0);
        x.reads(1, 2, 3);
        due.is("b d by reader 1", x.like(0, 2, 1), 3);
        due.is("b d by reader 0", x.like(0, 2, 0), 2);
        for (int odd : new int[] {-1, 2, MIN, MAX}) {
            due.is("reader " + odd, x.like(0, 0, odd), -1);
        }
        for (int odd : new int[] {-1, 4, MIN, MAX}) {
            due.is("part " + odd, x.like(odd, 0, 0), -1);
            due.is("part " + odd, x.like(0, odd, 0), -1);
        }
    }

    private static void rival() {
        DanceCompany x = Due.company(TEXT, 0);
        due.is("alike", x.rival(1), -1);
        x.reads(0, 7, 5);
        due.is("at the last", x.rival(1), 8);
        x.reads(1, 0, 1);
        due.is("at the first", x.rival(1), 1);
        x.reads(0, 0, 1);
        due.is("both again", x.rival(1), 8);
        due.is("no note", x.rival(0), -1);
        for (int odd : new int[] {-1, 4, MIN, MAX}) {
            due.is("part " + odd, x.rival(odd), -1);
        }
    }
}
