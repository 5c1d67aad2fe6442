/** Promises 37 to 39: which works live, what to note first, and what there is. */
public final class LiveTest {
    private static final Due due = new Due("LiveTest");
    private static final int MIN = Integer.MIN_VALUE;
    private static final int MAX = Integer.MAX_VALUE;
    private static final String TEXT = "work a;part b at 0 0 n;part c at 0 0 n;note d at 0 0 a;"
            + "work e;part f at 0 0 n;work g;part h at 0 0 n;part i at 0 0 n;part j at 0 0 n;work k;";

    public static void main(String[] args) {
        live();
        note();
        twelve();
        wrong();
        about();
        due.end();
    }

    private static void live() {
        DanceCompany x = Due.company(TEXT, 3);
        due.is("a work without parts", x.live(0, 0, 0), 1);
        due.is("e noted", x.live(8, 0, 0), 2);
        due.is("b alone is not enough", x.live(1, 0, 0), 1);
        due.is("b and c are", x.live(3, 0, 0), 2);
        due.is("all", x.live(127, 0, 0), 4);
        x.knows(0, 0, 5);
        due.is("b is not known yet", x.live(2, 4, 0), 1);
        due.is("b is known", x.live(2, 5, 0), 2);
        x.out(0, 5, 9);
        due.is("out is not gone", x.live(2, 6, 0), 2);
        x.leaves(0, 8);
        due.is("not gone yet", x.live(2, 7, 0), 2);
        due.is("gone", x.live(2, 8, 0), 1);
        x.knows(1, 0, 0);
        due.is("another knows it", x.live(2, 8, 0), 2);
        due.is("as known ahead of all", x.live(2, 8, -1), 1);
        Due.rules(x, "may when 0; teach when 0;", 0);
        due.is("rules do not matter", x.live(2, 8, 0), 2);
        DanceCompany y = Due.company("work a;note b at 0 0 a;", 0);
        due.is("a note lives", y.live(0, 0, 0), 1);
        due.is("a note noted", y.live(1, 0, 0), 1);
    }

    private static void note() {
        DanceCompany x = Due.company(TEXT, 3);
        due.is("nothing", x.note(0, 0, 0), 0);
        due.is("e", x.note(1, 0, 0), 8);
        due.is("e still", x.note(2, 0, 0), 8);
        due.is("b, c and e", x.note(3, 0, 0), 11);
        due.is("b, c and e still", x.note(4, 0, 0), 11);
        due.is("b, c and e still", x.note(5, 0, 0), 11);
        due.is("all but d", x.note(6, 0, 0), 123);
        due.is("all but d still", x.note(12, 0, 0), 123);
        x.knows(0, 3, 0);
        x.knows(1, 0, 3);
        due.is("e lives", x.note(1, 0, 0), 0);
        due.is("c alone", x.note(1, 3, 0), 2);
        due.is("as known ahead of all", x.note(1, 3, -1), 8);
        due.is("h, i, j with c", x.note(4, 3, 0), 114);
        due.is("h, i, j are no more than b and c", x.note(3, 0, 0), 3);
        due.is("one work of one part", Due.company("work a;part b at 0 0 n;", 0).note(1, 0, 0), 1);
        DanceCompany y = Due.company("work a;part b at 0 0 n;part c at 0 0 n;work d;part e at 0 0 n;work f;part g at 0 0 n;", 0);
        due.is("the least number of like ones", y.note(1, 0, 0), 4);
        due.is("two works by two parts", y.note(2, 0, 0), 12);
        due.is("three do no more", y.note(3, 0, 0), 12);
        due.is("all", y.note(4, 0, 0), 15);
    }

    private static void twelve() {
        StringBuilder s = new StringBuilder("work a;");
        for (int i = 0; i < 12; i++) {
            if (i == 6) {
                s.append("work b;");
            }
            s.append("part p").append((char) ('a' + i)).append(" at 0 0 n;");
        }
        DanceCompany x = Due.company(s.toString(), 0);
        due.is("all twelve noted", x.live(4095, 0, 0), 2);
        due.is("eleven", x.live(2047, 0, 0), 1);
        due.is("a 13th", x.live(4096, 0, 0), -1);
        due.is("six", x.note(6, 0, 0), 63);
        due.is("eleven", x.note(11, 0, 0), 63);
        due.is("twelve", x.note(12, 0, 0), 4095);
    }

    private static void wrong() {
        DanceCompany x = Due.company(TEXT, 0);
        for (int odd : new int[] {-1, 128, MIN, MAX}) {
            due.is("parts " + odd, x.live(odd, 0, 0), -1);
        }
        for (int odd : new int[] {-1, 13, MIN, MAX}) {
            due.is("many " + odd, x.note(odd, 0, 0), -1);
        }
        for (int odd : new int[] {-1, 1000, MIN, MAX}) {
            due.is("day " + odd, x.live(0, odd, 0), -1);
            due.is("day " + odd, x.note(0, odd, 0), -1);
        }
        DanceCompany y = new DanceCompany();
        due.is("no works", y.live(0, 0, 0), 0);
        due.is("no such part", y.live(1, 0, 0), -1);
        due.is("nothing to note", y.note(12, 0, 0), 0);
    }

    private static void about() {
        DanceCompany x = Due.company("floor 7 8 hard 9;" + TEXT, 3);
        x.knows(0, 0, 0);
        x.untell(0);
        x.knows(0, 0, 0);
        x.rehearse(0, 0);
        x.later(11);
        Due.rules(x, "", 0);
        x.feed(1, 2, 3, 4, 5);
        int[] want = {4, 7, 3, 2, 1, 1, 11, 20, 7, 8, 9};
        for (int what = 0; what < want.length; what++) {
            due.is("about " + what, x.about(what), want[what]);
        }
        for (int odd : new int[] {-1, 11, MIN, MAX}) {
            due.is("about " + odd, x.about(odd), -1);
        }
    }
}
