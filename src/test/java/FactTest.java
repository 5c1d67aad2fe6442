/** Promises 16 to 25: bodies, facts in two times, films, and what rules ask. */
public final class FactTest {
    private static final Due due = new Due("FactTest");
    private static final int MIN = Integer.MIN_VALUE;
    private static final int MAX = Integer.MAX_VALUE;
    private static final String TEXT = "floor 9 9 hard 4;work a;part b at 0 0 nx;note c at 0 0 aab;part d at 0 0 o;";

    public static void main(String[] args) {
        bodies();
        facts();
        twoHundred();
        twoTimes();
        later();
        borne();
        known();
        danced();
        wrongAsked();
        due.end();
    }

    private static void bodies() {
        DanceCompany x = new DanceCompany();
        for (int i = 0; i < 10; i++) {
            due.is("body " + i, x.body(), i);
        }
        due.is("an 11th", x.body(), -1);
        due.is("ten", x.about(2), 10);
    }

    private static void facts() {
        DanceCompany x = Due.company(TEXT, 2);
        due.is("knows", x.knows(0, 0, 999), 0);
        due.is("danced", x.danced(1, 2, 0), 1);
        due.is("out", x.out(1, 5, 5), 2);
        due.is("leaves", x.leaves(0, 999), 3);
        due.is("film", x.film(1, 3, 5), 4);
        due.is("out to the last day", x.out(0, 0, 999), 5);
        for (int odd : new int[] {-1, 2, 10, MIN, MAX}) {
            due.is("body " + odd, x.knows(odd, 0, 0), -1);
            due.is("body " + odd, x.danced(odd, 0, 0), -1);
            due.is("body " + odd, x.out(odd, 0, 0), -1);
            due.is("body " + odd, x.leaves(odd, 0), -1);
        }
        for (int odd : new int[] {-1, 3, 12, MIN, MAX}) {
            due.is("part " + odd, x.knows(0, odd, 0), -1);
            due.is("part " + odd, x.danced(0, odd, 0), -1);
            due.is("part " + odd, x.film(odd, 1, 0), -1);
        }
        for (int odd : new int[] {-1, 1000, MIN, MAX}) {
            due.is("day " + odd, x.knows(0, 0, odd), -1);
            due.is("day " + odd, x.danced(0, 0, odd), -1);
            due.is("day " + odd, x.out(0, odd, 999), -1);
            due.is("day " + odd, x.out(0, 0, odd), -1);
            due.is("day " + odd, x.leaves(0, odd), -1);
        }
        due.is("out backwards", x.out(0, 5, 4), -1);
        for (int odd : new int[] {-1, 0, 4, 33, MIN, MAX}) {
            due.is("count " + odd, x.film(1, odd, 0), -1);
        }
        for (int odd : new int[] {-1, 6, MIN, MAX}) {
            due.is("step " + odd, x.film(1, 1, odd), -1);
        }
        due.is("no note", x.film(0, 1, 0), -1);
        due.is("six", x.about(3), 6);
    }

    private static void twoHundred() {
        DanceCompany x = Due.company(TEXT, 1);
        for (int i = 0; i < 200; i++) {
            due.is("fact " + i, i % 2 == 0 ? x.out(0, 0, 0) : x.film(1, 1, 1), i);
        }
        due.is("a 201st", x.knows(0, 0, 0), -1);
        due.is("a 201st", x.danced(0, 0, 0), -1);
        due.is("a 201st", x.out(0, 0, 0), -1);
        due.is("a 201st", x.leaves(0, 0), -1);
        due.is("a 201st", x.film(1, 1, 1), -1);
        due.is("all are asked", x.borne(1, 1, 0), 0);
        due.is("all are asked", x.asked(0, 0, 0, 0, 0), 999);
        due.is("untold", x.untell(199), true);
        due.is("still 200", x.leaves(0, 0), -1);
        due.is("still 200", x.about(3), 200);
    }

    private static void twoTimes() {
        DanceCompany x = Due.company(TEXT, 1);
        x.later(5);
        due.is("knows", x.knows(0, 0, 3), 0);
        x.later(2);
        due.is("untell", x.untell(0), true);
        due.is("again", x.untell(0), false);
        due.is("none such", x.untell(1), false);
        due.is("none such", x.untell(-1), false);
        due.is("none such", x.untell(MAX), false);
        due.is("none such", x.untell(MIN), false);
        due.is("ahead of it", x.can(0, 0, 3, 4), 0);
        due.is("told", x.can(0, 0, 3, 5), 1);
        due.is("still told", x.can(0, 0, 3, 6), 1);
        due.is("untold", x.can(0, 0, 3, 7), 0);
        due.is("never", x.can(0, 0, 3, MIN), 0);
        due.is("never again", x.can(0, 0, 3, MAX), 0);
        due.is("knows", x.knows(0, 0, 3), 1);
        due.is("at the end of times", x.can(0, 0, 3, MAX), 1);
        due.is("untold at once", x.untell(1), true);
        due.is("it never counts", x.can(0, 0, 3, 7), 0);
        due.is("it never counts", x.can(0, 0, 3, 8), 0);
        x.knows(0, 0, 3);
        x.knows(0, 0, 3);
        Due.works(x, TEXT);
        x.leaves(0, 999);
        due.is("none such any more", x.untell(3), false);
        due.is("none such any more", x.untell(1), false);
        due.is("forgotten", x.can(0, 0, 3, 7), 0);
        due.is("told anew", x.untell(0), true);
    }

    private static void later() {
        DanceCompany x = new DanceCompany();
        due.is("later 0", x.later(0), 0);
        due.is("later 1000", x.later(1000), 1000);
        for (int odd : new int[] {-1, 1001, MIN, MAX}) {
            due.is("later " + odd, x.later(odd), -1);
        }
        for (int i = 2; i <= 100; i++) {
            due.is("later", x.later(1000), 1000 * i);
        }
        due.is("too late", x.later(1), -1);
        due.is("the last time", x.later(0), 100000);
        due.is("the time", x.about(6), 100000);
    }

    private static void borne() {
        DanceCompany x = Due.company(TEXT, 0);
        due.is("no film", x.borne(1, 0, 0), 0);
        x.film(1, 1, 0);
        x.film(1, 1, 0);
        x.film(1, 2, 5);
        x.film(1, 3, 1);
        x.later(1);
        x.film(1, 3, 4);
        x.reads(1, 1, 4);
        due.is("reader 0", x.borne(1, 0, 1), 3);
        due.is("reader 1", x.borne(1, 1, 1), 3);
        due.is("reader 1 earlier", x.borne(1, 1, 0), 2);
        due.is("reader 1 ahead of all", x.borne(1, 1, -1), 0);
        x.untell(0);
        due.is("one untold", x.borne(1, 0, 1), 2);
        due.is("then known", x.borne(1, 0, 0), 3);
        due.is("no note", x.borne(0, 0, 1), -1);
        for (int odd : new int[] {-1, 3, MIN, MAX}) {
            due.is("part " + odd, x.borne(odd, 0, 1), -1);
        }
        for (int odd : new int[] {-1, 2, MIN, MAX}) {
            due.is("reader " + odd, x.borne(1, odd, 1), -1);
        }
    }

    private static void known() {
        DanceCompany x = Due.company(TEXT, 2);
        due.is("it does not", x.asked(0, 0, 5, 0, 0), 999);
        x.knows(0, 0, 5);
        due.is("from that day on", x.asked(0, 0, 5, 0, 0), 0);
        due.is("not yet", x.asked(0, 0, 4, 0, 0), 999);
        due.is("a day", x.asked(0, 0, 6, 0, 0), 1);
        x.knows(0, 0, 2);
        x.knows(0, 0, 4);
        due.is("the earliest", x.asked(0, 0, 6, 0, 0), 4);
        due.is("the earliest", x.asked(0, 0, 3, 0, 0), 1);
        x.knows(1, 0, 0);
        due.is("999 days", x.asked(1, 0, 999, 0, 0), 999);
        due.is("998 days", x.asked(1, 0, 998, 0, 0), 998);
        due.is("another part", x.asked(0, 1, 6, 0, 0), 999);
    }

    private static void danced() {
        DanceCompany x = Due.company(TEXT, 2);
        due.is("never: last", x.asked(0, 0, 9, 1, 0), 999);
        due.is("never: load", x.asked(0, 0, 9, 2, 0), 0);
        due.is("never: idle", x.asked(0, 0, 9, 3, 0), 999);
        x.danced(0, 0, 10);
        x.danced(0, 1, 12);
        x.danced(1, 0, 13);
        due.is("on the day itself: last", x.asked(0, 0, 10, 1, 0), 999);
        due.is("on the day itself: idle", x.asked(0, 0, 10, 3, 0), 999);
        due.is("on the day itself: load", x.asked(0, 0, 10, 2, 0), 0);
        due.is("ahead of it", x.asked(0, 0, 9, 1, 0), 999);
        due.is("a day later: last", x.asked(0, 0, 11, 1, 0), 1);
        due.is("last of the part", x.asked(0, 0, 15, 1, 0), 5);
        due.is("idle of all", x.asked(0, 0, 15, 3, 0), 3);
        due.is("idle of all, for another part", x.asked(0, 2, 15, 3, 0), 3);
        // b: 1 + 3 + 2, c: 3 + 3
        due.is("load of both", x.asked(0, 2, 17, 2, 0), 12);
        due.is("load of the later", x.asked(0, 2, 18, 2, 0), 6);
        due.is("load of the later", x.asked(0, 2, 19, 2, 0), 6);
        due.is("load of none", x.asked(0, 2, 20, 2, 0), 0);
        x.reads(1, 0, 5);
        due.is("not reader 1", x.asked(0, 2, 18, 2, 0), 6);
        x.reads(0, 0, 5);
        due.is("reader 0", x.asked(0, 2, 18, 2, 0), 10);
        x.danced(0, 1, 12);
        due.is("each counts", x.asked(0, 2, 18, 2, 0), 20);
        x.danced(0, 0, 0);
        due.is("999 days", x.asked(0, 0, 999, 1, 0), 989);
        DanceCompany y = Due.company(TEXT, 1);
        y.danced(0, 0, 0);
        due.is("999 days: last", y.asked(0, 0, 999, 1, 0), 999);
        due.is("998 days: idle", y.asked(0, 0, 998, 3, 0), 998);
        due.is("the seven days from 0 on", y.asked(0, 0, 3, 2, 0), 6);
    }

    private static void wrongAsked() {
        DanceCompany x = Due.company(TEXT, 2);
        for (int odd : new int[] {-1, 2, MIN, MAX}) {
            due.is("body " + odd, x.asked(odd, 0, 0, 0, 0), -1);
        }
        for (int odd : new int[] {-1, 3, MIN, MAX}) {
            due.is("part " + odd, x.asked(0, odd, 0, 0, 0), -1);
        }
        for (int odd : new int[] {-1, 1000, MIN, MAX}) {
            due.is("day " + odd, x.asked(0, 0, odd, 0, 0), -1);
        }
        for (int odd : new int[] {-1, 4, MIN, MAX}) {
            due.is("what " + odd, x.asked(0, 0, 0, odd, 0), -1);
        }
    }
}
