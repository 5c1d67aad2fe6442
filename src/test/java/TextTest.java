/** Promises 1 to 6: a new object, the tape, works and rules as texts, and their faults. */
public final class TextTest {
    private static final Due due = new Due("TextTest");
    private static final String TWO = "work a; part b at 0 0 n;";

    public static void main(String[] args) {
        newObject();
        tape();
        worksStand();
        worksReplace();
        worksFaults();
        worksLimits();
        tokens();
        rulesStand();
        rulesFaults();
        ruleLimits();
        faultOfTheLatest();
        due.end();
    }

    private static void newObject() {
        DanceCompany x = new DanceCompany();
        int[] want = {0, 0, 0, 0, 0, 0, 0, 0, 10, 10, 0};
        for (int what = 0; what < want.length; what++) {
            due.is("new about " + what, x.about(what), want[what]);
        }
        due.is("new fault 0", x.fault(0), 0);
        due.is("new fault 1", x.fault(1), -1);
        due.is("new part", x.part(0, 0), -1);
        due.is("new untell", x.untell(0), false);
        due.is("new can", x.can(0, 0, 0, 0), -1);
        due.is("new week", x.week(0), 0);
        due.is("new hour", x.hour(0, 0), -1);
        due.is("NONE", DanceCompany.NONE, -1);
    }

    private static void tape() {
        DanceCompany x = new DanceCompany();
        for (int i = 1; i <= 70; i++) {
            due.is("feed " + i, x.feed(i, i, i, i, i), 20 * i);
        }
        due.is("feed over", x.feed(0, 0, 0, 0, 0), -1);
        due.is("bytes", x.about(7), 1400);
        due.is("end over", x.end(1401), -1);
        due.is("end below", x.end(-1), -1);
        due.is("end least", x.end(Integer.MIN_VALUE), -1);
        due.is("end 1381", x.end(1381), 1381);
        due.is("feed over 1381", x.feed(0, 0, 0, 0, 0), -1);
        due.is("end 1380", x.end(1380), 1380);
        due.is("feed to the brim", x.feed(0, 0, 0, 0, 0), 1400);
        due.is("end 0", x.end(0), 0);
        due.is("end 0 again", x.end(0), 0);
        due.is("end 1 of none", x.end(1), -1);
        // the highest byte comes first: "work ab; work c;" then blanks
        due.is("feed bytes", x.feed(0x776f726b, 0x2061623b, 0x20776f72, 0x6b20633b, 0x20202020), 20);
        due.is("works of bytes", x.works(), 2);
        due.is("tape is empty then", x.about(7), 0);
        due.is("works of nothing", x.works(), 0);
        due.is("no works", x.about(0), 0);
    }

    private static void worksStand() {
        due.worksFine("", 0);
        due.worksFine(" \n ", 0);
        due.worksFine("work a;", 1);
        due.worksFine("floor 20 1 hard 9;", 1);
        due.worksFine("work a;floor 1 20 hard 0;", 2);
        due.worksFine("work a;part b at19 0019 n e s\nw o x;work c;note d at 0 19 abcdefgh;", 4);
        due.worksFine("work n;part e at 0 0 n;note a at 0 0 a;", 3);
        due.worksFine("work steps;part bodyx at 0 0 n;part no at 0 0 n;", 3);
    }

    private static void worksReplace() {
        DanceCompany x = Due.company("floor 3 4 hard 5;" + TWO, 2);
        x.knows(0, 0, 0);
        x.rehearse(0, 1);
        x.reads(1, 0, 5);
        x.later(7);
        x.rooms(1);
        Due.rules(x, "cost 1;", 0);
        due.is("a fault", Due.works(x, "work a; work a;"), -1);
        int[] stays = {1, 1, 2, 1, 1, 1, 7, 15, 3, 4, 5};
        for (int what = 0; what < stays.length; what++) {
            due.is("behind a fault, about " + what, x.about(what), stays[what]);
        }
        due.is("new works", Due.works(x, "work z; note y at 1 2 ab; note v at 1 2 a;"), 3);
        int[] then = {1, 2, 2, 0, 1, 0, 7, 0, 10, 10, 0};
        for (int what = 0; what < then.length; what++) {
            due.is("behind new works, about " + what, x.about(what), then[what]);
        }
        due.is("readings stay", x.step(0, 1, 1), 5);
        due.is("facts are numbered anew", x.knows(1, 1, 0), 0);
        due.is("told at the time", x.can(1, 1, 0, 6), 0);
        due.is("told at the time", x.can(1, 1, 0, 7), 1);
        due.is("rehearsals anew", x.rehearse(0, 0), 0);
        x.rehearse(0, 0);
        due.is("rooms stay", x.week(0), 2);
        DanceCompany y = Due.company(TWO, 0);
        due.is("names are free again", Due.works(y, TWO), 2);
    }

    private static void worksFaults() {
        due.worksFault("A", 1, 0);
        due.worksFault("work a; ,", 1, 8);
        due.worksFault("work \t a;", 1, 5);
        due.worksFault("work a\u0000;", 1, 6);
        due.worksFault("work a\u00e4;", 1, 6);
        due.worksFault("work a\u00ff", 1, 6);
        due.worksFault("work", 2, 4);
        due.worksFault("work  ", 2, 6);
        due.worksFault("work a", 2, 6);
        due.worksFault(";", 2, 0);
        due.worksFault("a", 2, 0);
        due.worksFault("hard 1;", 2, 0);
        due.worksFault("work 1;", 2, 5);
        due.worksFault("work at;", 2, 5);
        due.worksFault("work counts;", 2, 5);
        due.worksFault("work a b;", 2, 7);
        due.worksFault("work a;;", 2, 7);
        due.worksFault("floor 1 1;", 2, 9);
        due.worksFault("floor 1 hard 1 1;", 2, 8);
        due.worksFault("floor 1 1 hard;", 2, 14);
        due.worksFault("floor a 1 hard 1;", 2, 6);
        due.worksFault("floor 1 1 hard 1; floor 1 1 hard 1;", 2, 18);
        due.worksFault("part a at 0 0 n;", 2, 0);
        due.worksFault("note a at 0 0 a;", 2, 0);
        due.worksFault("work a; part b 0 0 n;", 2, 15);
        due.worksFault("work a; part b at 0 0;", 2, 21);
        due.worksFault("work a; part b at 0 n;", 2, 20);
        due.worksFault("work a; part b at 0 0 n 1;", 2, 24);
        due.worksFault("work a; part b at 0 0 or;", 2, 22);
        due.worksFault("work a; part b at 0 0 n", 2, 23);
        due.worksFault("work a; part b at 0 0 n not;", 2, 24);
        due.worksFault("work a; work a;", 3, 13);
        due.worksFault("work a; part a at 0 0 n;", 3, 13);
        due.worksFault("work a; part b at 0 0 n; work b;", 3, 30);
        due.worksFault("work a; part b at 0 0 n; note b at 0 0 a;", 3, 30);
        due.worksFault("floor 0 1 hard 1;", 4, 6);
        due.worksFault("floor 21 1 hard 1;", 4, 6);
        due.worksFault("floor 20 0 hard 1;", 4, 9);
        due.worksFault("floor 20 21 hard 1;", 4, 9);
        due.worksFault("floor 20 20 hard 10;", 4, 17);
        due.worksFault("work a; part b at 20 0 n;", 4, 18);
        due.worksFault("work a; part b at 0 20 n;", 4, 20);
        due.worksFault("work a; part b at 0 0 a;", 5, 22);
        due.worksFault("work a; part b at 0 0 n nz;", 5, 24);
        due.worksFault("work a; note b at 0 0 i;", 5, 22);
        due.worksFault("work a; note b at 0 0 hgx", 5, 22);
        // the earlier place comes first, whatever its number
        due.worksFault("work a; part b at 0 0 z ?", 5, 22);
        due.worksFault("floor 0?", 4, 6);
    }

    private static void worksLimits() {
        due.worksFine("work a;work b;work c;work d;", 4);
        due.worksFault("work a;work b;work c;work d;work e;", 2, 28);
        StringBuilder eight = new StringBuilder("work a;");
        for (int i = 0; i < 8; i++) {
            eight.append("part b").append((char) ('a' + i)).append(" at 0 0 n;");
        }
        due.worksFine(eight.toString(), 9);
        due.worksFault(eight + "part z at 0 0 n;", 2, eight.length());
        due.worksFault(eight + "note a at 0 0 n;", 2, eight.length());
        StringBuilder twelve = new StringBuilder(eight).append("work c;");
        for (int i = 0; i < 4; i++) {
            twelve.append("note d").append((char) ('a' + i)).append(" at 0 0 a;");
        }
        due.worksFine(twelve.toString(), 14);
        due.worksFault(twelve + "note z at 0 0 a;", 2, twelve.length());
        String most = "work a;part b at 0 0 nnnnnnnn eeeeeeee ssssssss wwwwwwww";
        due.worksFine(most + ";", 2);
        due.worksFault(most + " o;", 5, most.length() + 1);
        due.worksFault("work a;part b at 0 0 nnnnnnnn eeeeeeee ssssssss wwwwwww oo;", 5, most.length());
        due.worksFine("work a;part b at 0 0 " + "n ".repeat(32) + ";", 2);
        due.worksFault("work a;part b at 0 0 " + "n ".repeat(33) + ";", 5, 21 + 64);
        DanceCompany x = new DanceCompany();
        due.is("1400 bytes", Due.works(x, " ".repeat(1393) + "work a;"), 1);
    }

    private static void tokens() {
        // each token is as long as can be, and a word has 8 letters at most
        due.worksFine("work abcdefgh;", 1);
        due.worksFault("work abcdefghi;", 2, 13);
        due.worksFine("work a;part b at 0 0 nnnnnnnnn;", 2);
        DanceCompany x = Due.company("work a;part b at 0 0 nnnnnnnnne;", 0);
        due.is("ten counts", x.part(0, 1), 10);
        due.is("the tenth", x.step(0, 10, 0), 1);
        due.worksFault("floor 0001 00001 hard 1;", 4, 11);
        due.worksFine("floor 0001 0001 hard1;", 1);
        due.worksFine("floor 00010001 hard1;", 1);
        due.worksFault("floor 1 1hard 1;", 1, 9);
        due.worksFault("floor 21hard 1;", 4, 6);
        due.worksFault("floor 5hard 1;", 1, 7);
        due.worksFault("floor(", 2, 5);
        due.rulesFault("cost 1and 1;", 1, 6);
        due.rulesFine("cost(1)and 1;");
        due.rulesFine("cost 1234+body*(3);");
        due.rulesFault("cost 12345;", 2, 9);
    }

    private static void rulesStand() {
        due.rulesFine("");
        due.rulesFine("may when 1;teach when 0;cost 9999;");
        due.rulesFine("cost body+part;");
        due.rulesFine("cost body+part+known+last+load+idle+heavy+hard+day+counts;");
        due.rulesFine("may when not 1 < 2 and not not 3 or not (1 = 2) * 3 - 4;");
        DanceCompany x = new DanceCompany();
        for (int i = 0; i < 6; i++) {
            due.is("rules " + i, Due.rules(x, "cost 1;", 999 - i), i);
            due.is("tape is empty then", x.about(7), 0);
        }
        due.is("a seventh", Due.rules(x, "cost 1;", 0), -2);
        due.is("tape stays", x.about(7), 7);
        due.is("six", x.about(4), 6);
        DanceCompany y = new DanceCompany();
        due.is("no such day", Due.rules(y, "cost 1;", 1000), -2);
        due.is("no such day", Due.rules(y, "cost 1;", -1), -2);
        due.is("601 bytes", Due.rules(y, "cost 1;" + " ".repeat(594), 0), -2);
        due.is("tape stays", y.about(7), 601);
        due.is("600 bytes", Due.rules(y, "cost 1;" + " ".repeat(593), 0), 0);
        due.is("a fault", Due.rules(y, "cost ;", 0), -1);
        due.is("none come", y.about(4), 1);
        due.is("tape is empty then", y.about(7), 0);
    }

    private static void rulesFaults() {
        due.rulesFault("cost", 2, 4);
        due.rulesFault("cost ", 2, 5);
        due.rulesFault("cost 1", 2, 6);
        due.rulesFault("cost;", 2, 4);
        due.rulesFault("cost when 1;", 2, 5);
        due.rulesFault("may 1;", 2, 4);
        due.rulesFault("teach 1;", 2, 6);
        due.rulesFault("work a;", 2, 0);
        due.rulesFault("cost a;", 2, 5);
        due.rulesFault("cost work;", 2, 5);
        due.rulesFault("cost 1 2;", 2, 7);
        due.rulesFault("cost 1 not 2;", 2, 7);
        due.rulesFault("cost 1 < 2 < 3;", 2, 11);
        due.rulesFault("cost 1 < 2 + 3 = 3;", 2, 15);
        due.rulesFine("cost (1 < 2) < 3;");
        due.rulesFine("cost 1 < (2 < 3);");
        due.rulesFine("cost 1 < 2 and 3 < 4 or 5 > 6;");
        due.rulesFault("cost 1 < not 2;", 2, 9);
        due.rulesFault("cost 1 + not 2;", 2, 9);
        due.rulesFault("cost 1 * not 2;", 2, 9);
        due.rulesFine("cost 1 * (not 2);");
        due.rulesFault("cost -1;", 2, 5);
        due.rulesFault("cost (1;", 2, 7);
        due.rulesFault("cost 1);", 2, 6);
        due.rulesFault("cost ();", 2, 6);
        due.rulesFault("cost (1));", 2, 8);
        due.rulesFault("cost 1 and;", 2, 10);
        due.rulesFault("cost 1 and or 1;", 2, 11);
        due.rulesFault("cost not;", 2, 8);
        due.rulesFault("cost 1;;", 2, 7);
        due.rulesFault("cost 1; cost 1;", 2, 8);
        due.rulesFault("may when 1; cost 1; may when 1;", 2, 20);
        due.rulesFault("may when 1; teach when 1; cost 1; teach", 2, 34);
        due.rulesFault("may when 1; teach when 1; cost 1; 5", 2, 34);
        due.rulesFault("cost 1 & 2;", 1, 7);
        due.rulesFault("cost ?;", 1, 5);
        due.rulesFault("? cost", 1, 0);
    }

    private static void ruleLimits() {
        String sixty = "cost 1" + "+1".repeat(59);
        due.rulesFine(sixty + ";");
        due.rulesFault(sixty + "+1;", 2, sixty.length() + 1);
        due.rulesFault(sixty + "+(1);", 2, sixty.length() + 1);
        due.rulesFault(sixty + "; may when 1;", 2, sixty.length() + 11);
        String twentyNine = "may when (1)" + "+(1)".repeat(28) + "; cost ";
        due.rulesFine(twentyNine + "(1);");
        due.rulesFine(twentyNine + "1+1;");
        due.rulesFault(twentyNine + "1+(1);", 2, twentyNine.length() + 3);
        due.rulesFault(twentyNine + "1+1+1;", 2, twentyNine.length() + 4);
        due.rulesFine("cost " + "(".repeat(7) + "1" + ")".repeat(7) + ";");
        due.rulesFault("cost " + "(".repeat(8) + "1" + ")".repeat(8) + ";", 2, 12);
        due.rulesFine("cost " + "not ".repeat(7) + "1;");
        due.rulesFault("cost " + "not ".repeat(8) + "1;", 2, 5 + 28);
        due.rulesFine("cost " + "not ".repeat(7) + "1 and " + "not ".repeat(7) + "1;");
        due.rulesFine("cost not(not(not(not 1)));");
        due.rulesFault("cost not(not(not(not(1))));", 2, 5 + 15);
        due.rulesFault("cost (not(not(not(not 1))));", 2, 5 + 13);
        due.rulesFine("cost ((((((1))))))+((((((1))))))+(not 1);");
        due.rulesFine("cost not not not 1 < ((((1))))-1 or ((((((not 1))))));");
        due.rulesFault("cost not not not 1 < (((((1)))));", 2, 5 + 20);
    }

    private static void faultOfTheLatest() {
        DanceCompany x = new DanceCompany();
        Due.works(x, "work a; work a;");
        due.is("fault 3", x.fault(0), 3);
        due.is("place 13", x.fault(1), 13);
        due.is("another what", x.fault(2), -1);
        due.is("another what", x.fault(-1), -1);
        due.is("not taken", Due.rules(x, "cost ;", 1000), -2);
        due.is("fault 3 still", x.fault(0), 3);
        due.is("refused", Due.rules(x, "cost ;", 0), -1);
        due.is("fault 2", x.fault(0), 2);
        due.is("place 5", x.fault(1), 5);
        due.is("fine", Due.rules(x, "cost 1;", 0), 0);
        due.is("fault 0", x.fault(0), 0);
        due.is("no place", x.fault(1), -1);
        Due.works(x, "?");
        due.is("fault 1", x.fault(0), 1);
        due.is("place 0", x.fault(1), 0);
        Due.works(x, "");
        due.is("fault 0", x.fault(0), 0);
        due.is("no place", x.fault(1), -1);
    }
}
