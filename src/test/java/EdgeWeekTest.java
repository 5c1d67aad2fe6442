/** The sentences of the document that name a boundary case of weeks and of what lives: part 4 of its terms, promises 33 to 39. */
public final class EdgeWeekTest {
    private static final Due due = new Due("EdgeWeekTest");
    private static final int MIN = Integer.MIN_VALUE;
    private static final int MAX = Integer.MAX_VALUE;
    // body 0 alone can dance a's part, 1 alone c's, both together e's; h has no parts, so no body
    private static final String FOUR = "work a;part b at 0 0 n;work c;part d at 0 0 n;work e;part f at 0 0 n;part g at 0 0 n;work h;";

    public static void main(String[] args) {
        nineRehearsals();
        rooms();
        roomsInAnHour();
        noBodyInTwo();
        fewestHours();
        firstByHours();
        withoutCast();
        asKnown();
        hours();
        lives();
        noted();
        noteFirst();
        noteAtMost();
        noteOfLike();
        wrongLive();
        about();
        due.end();
    }

    private static DanceCompany four() {
        DanceCompany x = Due.company(FOUR, 2);
        x.knows(0, 0, 0);
        x.knows(1, 1, 0);
        x.knows(0, 2, 0);
        x.knows(1, 3, 0);
        return x;
    }

    private static void isWeek(String what, DanceCompany x, int k, int hours, int... each) {
        due.is(what, x.week(k), hours);
        for (int i = 0; i < each.length; i++) {
            due.is(what + ", rehearsal " + i, x.hour(i, k), each[i]);
        }
    }

    private static void nineRehearsals() {
        due.sentence("REHEARSALS, 9 at most; its number; NONE, doing nothing, if it can't be, or there are 9.");
        DanceCompany x = four();
        for (int odd : new int[] {4, -1, MIN, MAX}) {
            due.is("work " + odd, x.rehearse(odd, 0), -1);
        }
        for (int odd : new int[] {1000, -1, MIN, MAX}) {
            due.is("day " + odd, x.rehearse(0, odd), -1);
        }
        due.is("none came", x.about(5), 0);
        for (int i = 0; i < 9; i++) {
            due.is("rehearsal", x.rehearse(i % 4, i % 2 == 0 ? 0 : 999), i);
            due.is("so many", x.about(5), i + 1);
        }
        due.is("a 10th", x.rehearse(0, 0), -1);
        due.is("nine", x.about(5), 9);
        due.is("the 9th has an hour", x.hour(8, 0) >= 0, true);
    }

    private static void rooms() {
        due.sentence("ROOMS (1 .. 5; 2 at first): true; false, doing nothing, if it can't be.");
        DanceCompany x = four();
        for (int i = 0; i < 9; i++) {
            x.rehearse(3, 0);
        }
        due.is("2 at first", x.week(0), 5);
        for (int odd : new int[] {0, 6, -1, MIN, MAX}) {
            due.is("rooms " + odd, x.rooms(odd), false);
            due.is("as it was", x.week(0), 5);
        }
        int[] want = {9, 5, 3, 3, 2};
        for (int rooms = 1; rooms <= 5; rooms++) {
            due.is("rooms " + rooms, x.rooms(rooms), true);
            due.is("hours", x.week(0), want[rooms - 1]);
        }
    }

    private static void roomsInAnHour() {
        due.sentence("In an HOUR there are no more than ROOMS");
        DanceCompany x = four();
        for (int i = 0; i < 9; i++) {
            x.rehearse(3, 0);
        }
        isWeek("2 rooms", x, 0, 5, 0, 0, 1, 1, 2, 2, 3, 3, 4);
        x.rooms(1);
        isWeek("1 room", x, 0, 9, 0, 1, 2, 3, 4, 5, 6, 7, 8);
        x.rooms(3);
        isWeek("3 rooms", x, 0, 3, 0, 0, 0, 1, 1, 1, 2, 2, 2);
        x.rooms(4);
        isWeek("4 rooms", x, 0, 3, 0, 0, 0, 0, 1, 1, 1, 1, 2);
        x.rooms(5);
        isWeek("5 rooms", x, 0, 2, 0, 0, 0, 0, 0, 1, 1, 1, 1);
    }

    private static void noBodyInTwo() {
        due.sentence("a WORK on a day, in which all BODIES of its CAST are; no BODY is in two");
        DanceCompany x = four();
        x.rooms(5);
        x.rehearse(0, 0);
        isWeek("one alone", x, 0, 1, 0);
        x.rehearse(1, 0);
        isWeek("a and c", x, 0, 1, 0, 0);
        x.rehearse(2, 0);
        isWeek("e has both", x, 0, 2, 0, 0, 1);
        x.rehearse(0, 999);
        isWeek("a on another day has 0 too", x, 0, 3, 0, 0, 1, 2);
        x.rehearse(3, 0);
        isWeek("h has nobody", x, 0, 3, 0, 0, 1, 2, 0);
        DanceCompany y = four();
        for (int i = 0; i < 9; i++) {
            y.rehearse(2, i);
        }
        y.rooms(5);
        isWeek("nine of one cast", y, 0, 9, 0, 1, 2, 3, 4, 5, 6, 7, 8);
        DanceCompany z = four();
        z.body();
        z.knows(2, 0, 10);
        z.out(0, 10, 10);
        z.rehearse(0, 9);
        z.rehearse(0, 10);
        isWeek("another body on another day", z, 0, 1, 0, 0);
    }

    private static void fewestHours() {
        due.sentence("WEEK: an HOUR (0 ..) for each REHEARSAL, with the fewest HOURS");
        // bodies 0 .. 3, a work for each pair that is to meet: the pairs' graph is a path, two hours are enough
        DanceCompany x = Due.company("work a;part b at 0 0 n;work c;part d at 0 0 n;part e at 0 0 n;work f;part g at 0 0 n;part h at 0 0 n;work i;part j at 0 0 n;", 4);
        x.knows(0, 0, 0);
        x.knows(0, 1, 0);
        x.knows(1, 2, 0);
        x.knows(1, 3, 0);
        x.knows(2, 4, 0);
        x.knows(2, 5, 0);
        x.rooms(5);
        // a: 0, i: 2, c: 0 and 1, f: 1 and 2; with a and i in one hour c and f take two more
        x.rehearse(0, 0);
        x.rehearse(3, 0);
        x.rehearse(1, 0);
        x.rehearse(2, 0);
        isWeek("two hours, not three", x, 0, 2, 0, 1, 1, 0);
        due.is("no rehearsals, no hours", four().week(0), 0);
    }

    private static void firstByHours() {
        due.sentence("of like ones the first by HOURS, one by one");
        DanceCompany x = four();
        x.rehearse(3, 0);
        x.rehearse(3, 0);
        x.rehearse(3, 0);
        isWeek("the first two together", x, 0, 2, 0, 0, 1);
        DanceCompany y = four();
        y.rehearse(2, 0);
        y.rehearse(0, 0);
        y.rehearse(1, 0);
        y.rehearse(3, 0);
        y.rehearse(3, 0);
        isWeek("with 2 rooms", y, 0, 3, 0, 1, 1, 0, 2);
        y.rooms(3);
        isWeek("with 3 rooms", y, 0, 2, 0, 1, 1, 0, 0);
    }

    private static void withoutCast() {
        due.sentence("REHEARSALS without a CAST have no BODY");
        DanceCompany x = Due.company(FOUR, 1);
        x.knows(0, 0, 0);
        x.knows(0, 2, 0);
        x.rehearse(2, 0);
        x.rehearse(0, 0);
        x.rehearse(2, 0);
        isWeek("e has no cast, though 0 can", x, 0, 2, 0, 0, 1);
        x.rooms(3);
        isWeek("with 3 rooms", x, 0, 1, 0, 0, 0);
        x.rooms(1);
        isWeek("they take a room", x, 0, 3, 0, 1, 2);
    }

    private static void asKnown() {
        due.sentence("WEEK as known at k: how many HOURS");
        DanceCompany x = four();
        x.rehearse(0, 0);
        x.rehearse(2, 0);
        x.later(5);
        x.out(1, 0, 0);
        isWeek("at 4", x, 4, 2, 0, 1);
        isWeek("at 5, e has no cast", x, 5, 1, 0, 0);
        isWeek("at the greatest", x, MAX, 1, 0, 0);
        isWeek("ahead of all", x, -1, 1, 0, 0);
        isWeek("at the least", x, MIN, 1, 0, 0);
        isWeek("at 4 again", x, 4, 2, 0, 1);
    }

    private static void hours() {
        due.sentence("The HOUR of a REHEARSAL; NONE if there is none such.");
        DanceCompany x = four();
        due.is("none", x.hour(0, 0), -1);
        x.rehearse(0, 0);
        due.is("the first", x.hour(0, 0), 0);
        for (int odd : new int[] {1, -1, 8, 9, MIN, MAX}) {
            due.is("rehearsal " + odd, x.hour(odd, 0), -1);
        }
    }

    private static void lives() {
        due.sentence("LIVES: a WORK lives on a day, if each of its PARTS is a note, is noted, or is known by a BODY that is not gone then.");
        DanceCompany x = Due.company("work a;note b at 0 0 a;work c;note d at 0 0 a;part e at 0 0 n;", 2);
        due.is("a note alone", x.live(0, 0, 0), 1);
        x.knows(0, 2, 10);
        due.is("known later", x.live(0, 9, 0), 1);
        due.is("known from that day on", x.live(0, 10, 0), 2);
        x.out(0, 10, 999);
        due.is("out is not gone", x.live(0, 11, 0), 2);
        Due.rules(x, "may when 0;teach when 0;", 0);
        due.is("it may not dance", x.live(0, 11, 0), 2);
        x.leaves(0, 20);
        due.is("ahead", x.live(0, 19, 0), 2);
        due.is("gone then", x.live(0, 20, 0), 1);
        x.knows(1, 2, 30);
        due.is("another one not yet", x.live(0, 29, 0), 1);
        due.is("another one", x.live(0, 30, 0), 2);
        due.is("as known ahead of all", x.live(0, 30, -1), 1);
        due.is("a work without parts", Due.company("work a;work b;part c at 0 0 n;", 0).live(0, 0, 0), 1);
    }

    private static void noted() {
        due.sentence("How many WORKS live on a day with PARTS noted (as bits)");
        DanceCompany x = Due.company(FOUR, 0);
        int[] want = {1, 2, 2, 3, 1, 2, 2, 3, 1, 2, 2, 3, 2, 3, 3, 4};
        for (int bits = 0; bits < 16; bits++) {
            due.is("noted " + bits, x.live(bits, 500, 0), want[bits]);
        }
    }

    private static void noteFirst() {
        due.sentence("NOTE FIRST: so many PARTS at most, noted, by which most WORKS live on a day");
        String works = EdgeWorksTest.workOf("a", "part", 3, "at 0 0 n") + EdgeWorksTest.workOf("b", "part", 2, "at 0 0 n")
                + EdgeWorksTest.workOf("c", "part", 2, "at 0 0 n") + EdgeWorksTest.workOf("d", "part", 4, "at 0 0 n");
        DanceCompany x = Due.company(works, 1);
        int[] want = {0, 0, 0b11000, 0b11000, 0b1111000, 0b1111000, 0b1111000, 0b1111111, 0b1111111, 0b1111111, 0b1111111, 0b11111111111,
            0b11111111111};
        for (int many = 0; many <= 12; many++) {
            due.is("at most " + many, x.note(many, 0, 0), want[many]);
        }
        x.knows(0, 10, 5);
        due.is("one less is missing, later", x.note(3, 4, 0), 0b11000);
        due.is("as known ahead of all", x.note(10, 5, -1), 0b1111111);
        due.is("one less is missing", x.note(10, 5, 0), 0b1111111111);
        x.leaves(0, 6);
        due.is("gone then", x.note(10, 6, 0), 0b1111111);
    }

    private static void noteAtMost() {
        due.sentence("NOTE FIRST of so many (0 .. 12) as bits; NONE if one can't be.");
        String works = EdgeWorksTest.workOf("a", "part", 6, "at 0 0 n") + EdgeWorksTest.workOf("b", "part", 6, "at 0 0 n");
        DanceCompany x = Due.company(works, 0);
        due.is("0", x.note(0, 0, 0), 0);
        due.is("5", x.note(5, 0, 0), 0);
        due.is("6", x.note(6, 0, 0), 0b111111);
        due.is("11", x.note(11, 0, 0), 0b111111);
        due.is("12", x.note(12, 999, 0), 0b111111111111);
        for (int odd : new int[] {13, -1, MIN, MAX}) {
            due.is("many " + odd, x.note(odd, 0, 0), -1);
        }
        for (int odd : new int[] {1000, -1, MIN, MAX}) {
            due.is("day " + odd, x.note(1, odd, 0), -1);
        }
        due.is("12 of one part", Due.company("work a;part b at 0 0 n;", 0).note(12, 0, 0), 1);
        due.is("12 of none", new DanceCompany().note(12, 0, 0), 0);
    }

    private static void noteOfLike() {
        due.sentence("of like ones the fewest PARTS, then the least number (as bits)");
        DanceCompany x = Due.company(EdgeWorksTest.workOf("a", "part", 2, "at 0 0 n") + EdgeWorksTest.workOf("b", "part", 1, "at 0 0 n")
                + EdgeWorksTest.workOf("c", "part", 1, "at 0 0 n"), 0);
        due.is("one of two like ones", x.note(1, 0, 0), 0b100);
        due.is("two works by two parts", x.note(2, 0, 0), 0b1100);
        due.is("fewer than may be", x.note(3, 0, 0), 0b1100);
        DanceCompany y = Due.company(EdgeWorksTest.workOf("a", "part", 2, "at 0 0 n") + EdgeWorksTest.workOf("b", "part", 2, "at 0 0 n"), 1);
        due.is("the least number", y.note(2, 0, 0), 0b11);
        due.is("the least number", y.note(3, 0, 0), 0b11);
        y.knows(0, 0, 0);
        y.knows(0, 1, 0);
        due.is("what lives needs no note", y.note(1, 0, 0), 0);
        due.is("what lives needs no note", y.note(4, 0, 0), 0b1100);
        DanceCompany z = Due.company("work a;part b at 0 0 n;note c at 0 0 a;part d at 0 0 n;", 0);
        due.is("a note needs no note", z.note(3, 0, 0), 0b101);
        due.is("half a work is nothing", z.note(1, 0, 0), 0);
        DanceCompany w = Due.company("work a;part b at 0 0 n;part c at 0 0 n;part d at 0 0 n;work e;part f at 0 0 n;part g at 0 0 n;", 0);
        due.is("fewer parts ahead of the lesser number", w.note(3, 0, 0), 0b11000);
        due.is("fewer parts ahead of the lesser number", w.note(4, 0, 0), 0b11000);
    }

    private static void wrongLive() {
        due.sentence("How many WORKS live on a day with PARTS noted (as bits); NONE if one can't be.");
        DanceCompany x = Due.company(FOUR, 0);
        due.is("all", x.live(15, 999, 0), 4);
        for (int odd : new int[] {16, 17, 31, 4095, -1, MIN, MAX}) {
            due.is("parts " + odd, x.live(odd, 0, 0), -1);
        }
        for (int odd : new int[] {1000, -1, MIN, MAX}) {
            due.is("day " + odd, x.live(0, odd, 0), -1);
        }
        DanceCompany y = Due.company(EdgeWorksTest.workOf("a", "part", 8, "at 0 0 n") + EdgeWorksTest.workOf("b", "part", 4, "at 0 0 n"), 0);
        due.is("all twelve", y.live(4095, 0, 0), 2);
        due.is("without the 12th", y.live(2047, 0, 0), 1);
        due.is("a 13th", y.live(4096, 0, 0), -1);
        due.is("no parts at all", new DanceCompany().live(0, 0, 0), 0);
        due.is("no parts at all", new DanceCompany().live(1, 0, 0), -1);
    }

    private static void about() {
        due.sentence("What 0: WORKS, .. 10: hard. NONE for another what.");
        DanceCompany x = Due.company("floor 20 1 hard 9;" + EdgeWorksTest.workOf("a", "part", 8, "at 0 0 n") + EdgeWorksTest.workOf("b", "note", 4, "at 0 0 a")
                + "work c;work d;", 10);
        for (int i = 0; i < 200; i++) {
            x.out(9, 0, 0);
        }
        for (int i = 0; i < 6; i++) {
            x.rules(0);
        }
        for (int i = 0; i < 9; i++) {
            x.rehearse(2, 0);
        }
        for (int i = 0; i < 100; i++) {
            x.later(1000);
        }
        for (int i = 0; i < 70; i++) {
            x.feed(0, 0, 0, 0, 0);
        }
        int[] most = {4, 12, 10, 200, 6, 9, 100000, 1400, 20, 1, 9};
        for (int what = 0; what < most.length; what++) {
            due.is("what " + what, x.about(what), most[what]);
        }
        for (int odd : new int[] {11, -1, MIN, MAX}) {
            due.is("what " + odd, x.about(odd), -1);
        }
    }
}
