import java.util.Arrays;
import java.util.Random;

/** Promises 33 to 36: rehearsals, rooms, the week and its hours. */
public final class WeekTest {
    private static final Due due = new Due("WeekTest");
    private static final int MIN = Integer.MIN_VALUE;
    private static final int MAX = Integer.MAX_VALUE;
    // body i alone can dance the part of work i, and 4 and 5 those that follow
    private static final String FOUR = "work a;part b at 0 0 n;work c;part d at 0 0 n;work e;part f at 0 0 n;part g at 0 0 n;work h;";

    public static void main(String[] args) {
        rehearse();
        rooms();
        week();
        asKnown();
        withoutCast();
        hardWeeks();
        due.end();
    }

    private static void hours(DanceCompany x, String what, int k, int... want) {
        int most = 0;
        for (int i = 0; i < want.length; i++) {
            due.is(what + ", hour " + i, x.hour(i, k), want[i]);
            most = Math.max(most, want[i] + 1);
        }
        due.is(what + ", week", x.week(k), most);
    }

    private static void rehearse() {
        DanceCompany x = Due.company(FOUR, 1);
        for (int odd : new int[] {-1, 4, MIN, MAX}) {
            due.is("work " + odd, x.rehearse(odd, 0), -1);
        }
        for (int odd : new int[] {-1, 1000, MIN, MAX}) {
            due.is("day " + odd, x.rehearse(0, odd), -1);
        }
        for (int i = 0; i < 9; i++) {
            due.is("rehearsal " + i, x.rehearse(i % 4, i * 111), i);
        }
        due.is("a 10th", x.rehearse(0, 0), -1);
        due.is("nine", x.about(5), 9);
        for (int odd : new int[] {-1, 9, MIN, MAX}) {
            due.is("hour of " + odd, x.hour(odd, 0), -1);
        }
    }

    private static void rooms() {
        DanceCompany x = Due.company(FOUR, 0);
        for (int odd : new int[] {-1, 0, 6, MIN, MAX}) {
            due.is("rooms " + odd, x.rooms(odd), false);
        }
        for (int i = 0; i < 9; i++) {
            x.rehearse(3, 0);
        }
        hours(x, "2 rooms at first", 0, 0, 0, 1, 1, 2, 2, 3, 3, 4);
        due.is("rooms", x.rooms(1), true);
        hours(x, "1 room", 0, 0, 1, 2, 3, 4, 5, 6, 7, 8);
        due.is("rooms", x.rooms(5), true);
        hours(x, "5 rooms", 0, 0, 0, 0, 0, 0, 1, 1, 1, 1);
        due.is("rooms", x.rooms(0), false);
        due.is("as it was", x.week(0), 2);
    }

    private static DanceCompany four() {
        DanceCompany x = Due.company(FOUR, 4);
        x.knows(0, 0, 0);
        x.knows(1, 1, 0);
        x.knows(0, 2, 0);
        x.knows(1, 3, 0);
        return x;
    }

    private static void week() {
        DanceCompany x = four();
        hours(x, "none", 0);
        x.rehearse(0, 5);
        x.rehearse(1, 5);
        x.rehearse(2, 5);
        hours(x, "a and c, then e", 0, 0, 0, 1);
        x.rehearse(2, 9);
        hours(x, "e on another day is e", 0, 0, 0, 1, 2);
        x.rehearse(0, 5);
        hours(x, "a again", 0, 0, 0, 1, 2, 3);
        x.rehearse(1, 5);
        hours(x, "c again", 0, 0, 0, 1, 2, 3, 3);
        DanceCompany y = four();
        y.rehearse(0, 0);
        y.rehearse(3, 0);
        y.rehearse(0, 0);
        y.rehearse(3, 0);
        y.rehearse(1, 0);
        hours(y, "the first by hours", 0, 0, 0, 1, 1, 2);
        // 0 must not stand with 1, though it could, if the week is to have two hours
        DanceCompany z = four();
        z.rehearse(3, 0);
        z.rehearse(3, 0);
        z.rehearse(2, 0);
        z.rehearse(2, 0);
        hours(z, "fewest hours first", 0, 0, 1, 0, 1);
    }

    private static void asKnown() {
        DanceCompany x = four();
        x.rehearse(0, 5);
        x.rehearse(2, 5);
        x.later(1);
        x.knows(2, 0, 6);
        x.out(0, 5, 5);
        hours(x, "as known at 0", 0, 0, 1);
        hours(x, "as known at 1: no casts", 1, 0, 0);
        hours(x, "as known ahead of all", -1, 0, 0);
        x.knows(3, 2, 5);
        hours(x, "with a cast again", 1, 0, 0);
        hours(x, "as known at 0 still", 0, 0, 1);
        hours(x, "at the end of times", MAX, 0, 0);
    }

    private static void withoutCast() {
        DanceCompany x = Due.company("work a;part b at 0 0 n;part c at 0 0 n;", 1);
        x.knows(0, 0, 0);
        x.rehearse(0, 0);
        x.rehearse(0, 0);
        x.rehearse(0, 0);
        hours(x, "no body in them", 0, 0, 0, 1);
    }

    /** Crews by days: on each day other bodies are out, so that nine rehearsals have random crews. */
    private static void hardWeeks() {
        Random random = new Random(3);
        String text = "work a;part b at 0 0 n;part c at 0 0 n;part d at 0 0 n;";
        for (int round = 0; round < 40; round++) {
            DanceCompany x = Due.company(text, 10);
            Model m = new Model();
            for (char c : text.toCharArray()) {
                m.tape.add((byte) c);
            }
            m.works();
            for (int body = 0; body < 10; body++) {
                m.body();
                for (int part = 0; part < 3; part++) {
                    x.knows(body, part, 0);
                    m.knows(body, part, 0);
                }
            }
            int many = 5 + random.nextInt(5);
            for (int i = 0; i < many; i++) {
                x.rehearse(0, i);
                m.rehearse(0, i);
                for (int body = 0; body < 10; body++) {
                    if (random.nextInt(3) > 0) {
                        x.out(body, i, i);
                        m.out(body, i, i);
                    }
                }
            }
            int rooms = 1 + round % 5;
            x.rooms(rooms);
            m.rooms(rooms);
            int[] want = m.plan(0);
            for (int i = 0; i < many; i++) {
                due.is("hour " + i + ", round " + round, x.hour(i, 0), want[i]);
            }
            due.is("week, round " + round, x.week(0), Arrays.stream(want).distinct().count());
        }
    }
}
