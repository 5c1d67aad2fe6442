/**
 * The sentences of the document that name a boundary case of rules: what the second part of its terms says of
 * them, and promise 5.
 */
public final class EdgeRulesTest {
    private static final Due due = new Due("EdgeRulesTest");
    private static final int MIN = Integer.MIN_VALUE;
    private static final int MAX = Integer.MAX_VALUE;
    private static final long NO_COST = -1000000000000L;

    public static void main(String[] args) {
        sixHundredBytes();
        days();
        sixOfThem();
        tapeBehindRules();
        eachOnce();
        lines();
        grammar();
        sixtyUnits();
        sevenDeep();
        mostWaiting();
        textByText();
        wrapping();
        ofWhatIsNotZero();
        order();
        inForce();
        notTold();
        whatIsAsked();
        due.end();
    }

    private static DanceCompany alone() {
        DanceCompany x = Due.company("work a;part b at 0 0 n;", 1);
        x.knows(0, 0, 0);
        return x;
    }

    private static void sixHundredBytes() {
        due.sentence("RULES are a text of at most 600 bytes; -2, and the TAPE stays: more than 600 bytes");
        DanceCompany x = new DanceCompany();
        for (int length : new int[] {601, 602, 1399, 1400}) {
            due.is("bytes " + length, Due.rules(x, "cost 1;" + " ".repeat(length - 7), 0), -2);
            due.is("the tape stays", x.about(7), length);
            due.is("none come", x.about(4), 0);
        }
        due.is("its first 600 are rules", x.end(600), 600);
        due.is("600 bytes", x.rules(0), 0);
        due.is("599 bytes", Due.rules(x, "cost 1;" + " ".repeat(592), 0), 1);
        due.is("a fault at the end of 600", Due.rules(x, " ".repeat(594) + "cost 1", 0), -1);
        due.is("its place", x.fault(1), 600);
        due.is("601 bytes with a fault", Due.rules(x, "?" + " ".repeat(600), 0), -2);
        due.is("the place still", x.fault(1), 600);
    }

    private static void days() {
        due.sentence("from a day (0 .. 999) on; -2, and the TAPE stays: no such day");
        DanceCompany x = new DanceCompany();
        Due.tape(x, "cost 1;");
        for (int wrong : new int[] {-1, 1000, MIN, MAX}) {
            due.is("day " + wrong, x.rules(wrong), -2);
            due.is("the tape stays", x.about(7), 7);
        }
        due.is("day 0", x.rules(0), 0);
        due.is("day 999", x.rules(999), 1);
    }

    private static void sixOfThem() {
        due.sentence("6 at most; their number; -2, and the TAPE stays: 6 of them");
        DanceCompany x = alone();
        for (int i = 0; i < 6; i++) {
            due.is("a fault takes no number", Due.rules(x, "cost", 0), -1);
            due.is("number", Due.rules(x, "cost " + (i + 5) + ";", 10 * i), i);
            due.is("so many", x.about(4), i + 1);
        }
        due.is("a 7th", Due.rules(x, "cost 1;", 0), -2);
        due.is("the tape stays", x.about(7), 7);
        due.is("a 7th with a fault", Due.rules(x, "cost", 0), -2);
        due.is("no fault", x.fault(0), 0);
        due.is("six", x.about(4), 6);
        for (int i = 0; i < 6; i++) {
            due.is("each is in force", x.cost(0, 10 * i + 9, 0), i + 5);
        }
        due.is("works leave them", Due.works(x, "work a;"), 1);
        due.is("six still", x.about(4), 6);
    }

    private static void tapeBehindRules() {
        due.sentence("The TAPE (empty then) is RULES from a day on: their number; NONE: a FAULT (none come)");
        DanceCompany x = new DanceCompany();
        due.is("rules", Due.rules(x, "cost 1;", 0), 0);
        due.is("the tape is empty", x.about(7), 0);
        due.is("a fault", Due.rules(x, "may when 0; cost 1;?", 0), -1);
        due.is("the tape is empty", x.about(7), 0);
        due.is("none come", x.about(4), 1);
        due.is("rules of nothing", x.rules(5), 1);
        due.is("two", x.about(4), 2);
    }

    private static void eachOnce() {
        due.sentence("Each once. ... a line a second time: at its first word");
        due.rulesFine("may when 1;teach when 1;cost 1;");
        due.rulesFine("cost 1;teach when 1;may when 1;");
        due.rulesFault("may when 1;may when 1;", 2, 11);
        due.rulesFault("teach when 1;teach when 1;", 2, 13);
        due.rulesFault("cost 1;cost 1;", 2, 7);
        due.rulesFault("may when 1;teach when 1;cost 1;may", 2, 31);
        due.rulesFault("cost 1;cost ?", 2, 7);
    }

    private static void lines() {
        due.sentence("rules = {line}. line = (may | teach) when e ; | cost e ;");
        due.rulesFine("");
        due.rulesFine("\n");
        due.rulesFault(";", 2, 0);
        due.rulesFault("when 1;", 2, 0);
        due.rulesFault("may", 2, 3);
        due.rulesFault("may when", 2, 8);
        due.rulesFault("may when ;", 2, 9);
        due.rulesFault("may when 1", 2, 10);
        due.rulesFault("may 1;", 2, 4);
        due.rulesFault("teach 1;", 2, 6);
        due.rulesFault("cost", 2, 4);
        due.rulesFault("cost;", 2, 4);
        due.rulesFault("cost when 1;", 2, 5);
        due.rulesFault("floor 1 1 hard 1;", 2, 0);
        due.rulesFault("costs 1;", 2, 0);
    }

    private static void grammar() {
        due.sentence("e = both {or both}. both = one {and one}.");
        due.rulesFine("cost 1 or 1 or 1 and 1 and 1 or 1;");
        due.rulesFault("cost or 1;", 2, 5);
        due.rulesFault("cost and 1;", 2, 5);
        due.rulesFault("cost 1 or;", 2, 9);
        due.rulesFault("cost 1 and;", 2, 10);
        due.rulesFault("cost 1 or or 1;", 2, 10);
        due.rulesFault("cost 1 or and 1;", 2, 10);
        due.sentence("one = not one | sum [(< | > | =) sum].");
        due.rulesFine("cost not not 1 < 2;");
        due.rulesFine("cost 1 < 2 or not 1 > 2 and not 1 = 2;");
        due.rulesFault("cost not;", 2, 8);
        due.rulesFault("cost 1 not 1;", 2, 7);
        for (String sign : new String[] {"<", ">", "="}) {
            due.rulesFine("cost 1 " + sign + " 2;");
            due.rulesFault("cost 1 " + sign + ";", 2, 8);
            due.rulesFault("cost " + sign + " 1;", 2, 5);
            due.rulesFault("cost 1 " + sign + " 2 " + sign + " 3;", 2, 11);
            due.rulesFault("cost 1 " + sign + " 2 + 3 = 4;", 2, 15);
            due.rulesFault("cost not 1 " + sign + " 2 < 3;", 2, 15);
            due.rulesFault("cost 1 " + sign + " not 2;", 2, 9);
            due.rulesFault("cost 1 " + sign + "= 2;", 2, 8);
            due.rulesFine("cost (1 " + sign + " 2) " + sign + " (3 " + sign + " 4);");
        }
        due.sentence("sum = term {(+ | -) term}. term = unit {* unit}.");
        for (String sign : new String[] {"+", "-", "*"}) {
            due.rulesFine("cost 1" + sign + "2" + sign + "3;");
            due.rulesFault("cost " + sign + "1;", 2, 5);
            due.rulesFault("cost 1" + sign + ";", 2, 7);
            due.rulesFault("cost 1" + sign + sign + "1;", 2, 7);
            due.rulesFault("cost 1" + sign + "not 1;", 2, 7);
        }
        due.sentence("unit = N | body | part | known | last | load | idle | heavy | hard | day | counts | ( e )");
        for (String word : "body part known last load idle heavy hard day counts 0 9999 (1)".split(" ")) {
            due.rulesFine("cost " + word + ";");
        }
        for (String word : "floor work note at may cost teach when and or a step bodys".split(" ")) {
            due.rulesFault("cost " + word + ";", 2, 5);
            due.rulesFault("cost 1 + (" + word + ");", 2, 10);
        }
        due.rulesFault("cost ();", 2, 6);
        due.rulesFault("cost (1;", 2, 7);
        due.rulesFault("cost 1);", 2, 6);
        due.rulesFault("cost (1));", 2, 8);
        due.rulesFault("cost (1", 2, 7);
        due.rulesFault("cost 1 (2);", 2, 7);
        due.rulesFault("cost (1) 2;", 2, 9);
        due.rulesFault("cost 1 1;", 2, 7);
        due.rulesFault("cost 12345;", 2, 9);
    }

    private static void sixtyUnits() {
        due.sentence("60 units in all; a 61st unit: at its first TOKEN");
        String sixty = "cost 1" + "+1".repeat(59);
        due.rulesFine(sixty + ";");
        due.rulesFault(sixty + "+1;", 2, sixty.length() + 1);
        due.rulesFault(sixty + "*body;", 2, sixty.length() + 1);
        due.rulesFault(sixty + "+(1);", 2, sixty.length() + 1);
        due.rulesFault(sixty + " and 1;", 2, sixty.length() + 5);
        due.rulesFault(sixty + " or not 1;", 2, sixty.length() + 8);
        due.rulesFault(sixty + "+?;", 1, sixty.length() + 1);
        due.rulesFault(sixty + "+;", 2, sixty.length() + 1);
        String three = "may when 1" + "+1".repeat(19) + ";teach when 1" + "+1".repeat(19) + ";cost 1" + "+1".repeat(19);
        due.rulesFine(three + ";");
        due.rulesFault(three + "+1;", 2, three.length() + 1);
        String brackets = "cost (1)" + "+(1)".repeat(29);
        due.rulesFine(brackets + ";");
        due.rulesFault(brackets + "+1;", 2, brackets.length() + 1);
        due.rulesFault("cost 1+(1)" + "+(1)".repeat(28) + "+(1);", 2, brackets.length());
        DanceCompany x = alone();
        due.is("sixty", Due.rules(x, sixty + ";", 0), 0);
        due.is("their sum", x.cost(0, 0, 0), 60);
        due.is("thirty in brackets", Due.rules(x, brackets + ";", 0), 1);
        due.is("their sum", x.cost(0, 0, 0), 30);
    }

    private static void sevenDeep() {
        due.sentence("a unit ( e ), or a one behind not, within 6 others at most; what is within 7 others: at its first TOKEN, or the not");
        for (int nots = 0; nots <= 8; nots++) {
            for (int brackets = 0; brackets <= 8; brackets++) {
                String inner = "(".repeat(brackets) + "5" + ")".repeat(brackets);
                int deep = nots + brackets;
                int place = nots > 7 ? 5 + 28 : 5 + 4 * nots + 7 - nots;
                checkDepth("cost " + "not ".repeat(nots) + inner + ";", deep, place);
                if (deep > 0 && nots > 0 && brackets > 0) {
                    String other = "(".repeat(brackets) + "not ".repeat(nots) + "5" + ")".repeat(brackets);
                    int at = brackets > 7 ? 5 + 7 : 5 + brackets + 4 * (7 - brackets);
                    checkDepth("cost " + other + ";", deep, at);
                }
            }
        }
        due.rulesFine("cost ((((((1))))))+((((((1))))))*(((((((1)))))));");
        due.rulesFine("cost not not not not not not not 1 and not not not not not not not 1;");
        due.rulesFine("cost not 1 or ((((((not 1 and not 1))))));");
        due.rulesFault("cost not (1 or ((((((1 and 1)))))));", 2, 5 + 15);
        due.rulesFine("cost not (1 or (((((1 and 1))))));");
        due.rulesFault("cost not 1 < ((((((1)))))) + (((((((1)))))));", 2, 5 + 30);
        due.rulesFine("cost not 1 < ((((((1)))))) + ((((((1))))));");
    }

    private static void checkDepth(String text, int deep, int place) {
        if (deep <= 7) {
            due.rulesFine(text);
        } else {
            due.rulesFault(text, 2, place);
        }
    }

    private static void mostWaiting() {
        due.sentence("60 units; within 6 others: the most that can wait for its right side");
        String level = "0 or 1 and 1<1+1*(";
        String text = "cost " + level.repeat(7) + "0 or 1 and 2<3+4*5" + ")".repeat(7) + ";";
        due.rulesFine(text);
        DanceCompany x = alone();
        due.is("rules", Due.rules(x, text, 0), 0);
        due.is("its value", x.cost(0, 0, 0), 1);
        String nots = "cost " + "0 or 1 and not ".repeat(7) + "1<2+3*4;";
        due.is("rules", Due.rules(x, nots, 0), 1);
        due.is("0 or (1 and not 0), six times, or (1 and not (1 < 14))", x.cost(0, 0, 0), 1);
        due.is("an 8th bracket", Due.rules(x, "cost 1-(2-(3-(4-(5-(6-(7-(8*(9))))))));", 0), -1);
        due.is("its place", x.fault(1), 28);
        due.is("seven brackets", Due.rules(x, "cost 1-(2-(3-(4-(5-(6-(7-(8)))))));", 0), 2);
        due.is("1 - 2 + 3 - 4 + 5 - 6 + 7 - 8", x.cost(0, 0, 0), -4);
    }

    private static void textByText() {
        due.sentence("60 units in all, within 6 others: of each text by itself, whatever came ahead of it");
        DanceCompany x = alone();
        String sixty = "cost 1" + "+1".repeat(59);
        for (int i = 0; i < 6; i++) {
            for (int j = 0; j < 3; j++) {
                due.is("a fault in the 61st", Due.rules(x, sixty + "+1;", 0), -1);
                due.is("its place", x.fault(1), sixty.length() + 1);
            }
            due.is("a fault in the depth", Due.rules(x, "may when (((((((1+1*1<1 and (", 0), -1);
            due.is("its place", x.fault(1), 28);
            due.is("a fault behind a number", Due.rules(x, "cost 5 5", 0), -1);
            due.is("its place", x.fault(1), 7);
            due.is("sixty", Due.rules(x, i % 2 == 0 ? sixty + ";" : "cost (((((((7)))))));", 0), i);
            due.is("its value", x.cost(0, 0, 0), i % 2 == 0 ? 60 : 7);
        }
    }

    private static long value(String e) {
        DanceCompany x = alone();
        Due.rules(x, "cost " + e + ";", 0);
        return x.cost(0, 0, 0);
    }

    private static void wrapping() {
        due.sentence("Ints, wrapping");
        due.is("the greatest", value("8192*8192*32-1"), MAX);
        due.is("one more", value("8192*8192*32-1+1"), MIN);
        due.is("the least", value("0-8192*8192*32"), MIN);
        due.is("one less", value("0-8192*8192*32-1"), MAX);
        due.is("a product", value("9999*9999*9999"), 9999 * 9999 * 9999);
        due.is("a product that is 0", value("8192*8192*64"), 0);
        due.is("it may then be no 0", value("8192*8192*64 or 0"), 0);
        due.is("compared as ints", value("8192*8192*32 < 0"), 1);
        due.is("compared as ints", value("8192*8192*32-1 > 8192*8192*32"), 1);
        due.is("the least and the greatest", value("(0-8192*8192*32) < (8192*8192*32-1)"), 1);
    }

    private static void ofWhatIsNotZero() {
        due.sentence("relations, and, or, not are 1 or 0, of what is not 0");
        String[] units = {"0", "1", "5", "(0-3)"};
        int[] values = {0, 1, 5, -3};
        for (int a = 0; a < 4; a++) {
            int left = values[a];
            due.is("not " + units[a], value("not " + units[a]), left == 0 ? 1 : 0);
            due.is("1 + (not ..)", value("1+(not " + units[a] + ")"), left == 0 ? 2 : 1);
            due.is("1 and not ..", value("1 and not " + units[a]), left == 0 ? 1 : 0);
            due.is("0 or not ..", value("0 or not " + units[a]), left == 0 ? 1 : 0);
            due.is("1 and not not ..", value("1 and not not " + units[a]), left == 0 ? 0 : 1);
            for (int b = 0; b < 4; b++) {
                int right = values[b];
                String what = units[a] + " .. " + units[b];
                due.is(what + " and", value(units[a] + " and " + units[b]), left != 0 && right != 0 ? 1 : 0);
                due.is(what + " or", value(units[a] + " or " + units[b]), left != 0 || right != 0 ? 1 : 0);
                due.is(what + " <", value(units[a] + " < " + units[b]), left < right ? 1 : 0);
                due.is(what + " >", value(units[a] + " > " + units[b]), left > right ? 1 : 0);
                due.is(what + " =", value(units[a] + " = " + units[b]), left == right ? 1 : 0);
            }
            DanceCompany x = alone();
            Due.rules(x, "may when " + units[a] + ";", 0);
            due.is("may when " + units[a], x.can(0, 0, 0, 0), left == 0 ? 0 : 1);
            x.body();
            Due.rules(x, "teach when " + units[a] + ";", 0);
            due.is("teach when " + units[a], x.learn(1, 0, 0, 0), left == 0 ? -1 : 1);
        }
        due.is("a unit alone is what it is", value("5"), 5);
        due.is("in brackets too", value("((0-5))"), -5);
    }

    private static void order() {
        due.sentence("e = both {or both}, both = one {and one}, one, sum, term, unit: what binds closer");
        due.is("1 or 1 and 0", value("1 or 1 and 0"), 1);
        due.is("0 and 1 or 1", value("0 and 1 or 1"), 1);
        due.is("not 0 and 0", value("not 0 and 0"), 0);
        due.is("not 1 or 1", value("not 1 or 1"), 1);
        due.is("not 1 = 0", value("not 1 = 0"), 1);
        due.is("not 2 > 1", value("not 2 > 1"), 0);
        due.is("1 < 2 and 2 < 1", value("1 < 2 and 2 < 1"), 0);
        due.is("1 + 1 < 1 + 2", value("1 + 1 < 1 + 2"), 1);
        due.is("3 - 1 = 2", value("3 - 1 = 2"), 1);
        due.is("1 + 2 * 3", value("1 + 2 * 3"), 7);
        due.is("2 * 3 + 1", value("2 * 3 + 1"), 7);
        due.is("2 * (3 + 1)", value("2 * (3 + 1)"), 8);
        due.is("7 - 2 - 1", value("7 - 2 - 1"), 4);
        due.is("7 - 2 + 1", value("7 - 2 + 1"), 6);
        due.is("7 - 2 * 3 - 1", value("7 - 2 * 3 - 1"), 0);
        due.is("2 * 3 * 4", value("2 * 3 * 4"), 24);
    }

    private static void inForce() {
        due.sentence("On a day those of the greatest day that is not behind it are in force, of like ones the last told.");
        DanceCompany x = alone();
        Due.rules(x, "cost 2;", 20);
        Due.rules(x, "cost 1;", 10);
        Due.rules(x, "cost 3;", 20);
        Due.rules(x, "cost 4;", 0);
        Due.rules(x, "cost 5;", 999);
        int[][] want = {{0, 4}, {9, 4}, {10, 1}, {19, 1}, {20, 3}, {998, 3}, {999, 5}};
        for (int[] pair : want) {
            due.is("day " + pair[0], x.cost(0, pair[0], 0), pair[1]);
        }
        Due.rules(x, "cost 6;", 10);
        due.is("of like ones the last told", x.cost(0, 10, 0), 6);
        due.is("the greater day still", x.cost(0, 20, 0), 3);
        due.is("the lesser day still", x.cost(0, 9, 0), 4);
    }

    private static void notTold() {
        due.sentence("Not told (and without any): may, teach hold, cost is 0.");
        DanceCompany x = alone();
        x.body();
        due.is("without any: may", x.can(0, 0, 5, 0), 1);
        due.is("without any: teach", x.learn(1, 0, 5, 0), 1);
        due.is("without any: cost", x.cost(0, 5, 0), 0);
        Due.rules(x, "may when 0;teach when 0;cost 7;", 10);
        due.is("ahead of the first: may", x.can(0, 0, 9, 0), 1);
        due.is("ahead of the first: teach", x.learn(1, 0, 9, 0), 1);
        due.is("ahead of the first: cost", x.cost(0, 9, 0), 0);
        due.is("told: may", x.can(0, 0, 10, 0), 0);
        due.is("told: teach", x.learn(1, 0, 10, 0), -1);
        due.is("told: no cast", x.cost(0, 10, 0), NO_COST);
        Due.rules(x, "", 20);
        due.is("not told: may", x.can(0, 0, 20, 0), 1);
        due.is("not told: teach", x.learn(1, 0, 20, 0), 1);
        due.is("not told: cost", x.cost(0, 20, 0), 0);
        Due.rules(x, "may when 0;", 30);
        due.is("may alone told: teach", x.learn(1, 0, 30, 0), 1);
        due.is("may alone told: may", x.can(0, 0, 30, 0), 0);
        Due.rules(x, "teach when 0;", 40);
        due.is("teach alone told: teach", x.learn(1, 0, 40, 0), -1);
        due.is("teach alone told: may", x.can(0, 0, 40, 0), 1);
        Due.rules(x, "cost 8;", 50);
        due.is("cost alone told: cost", x.cost(0, 50, 0), 8);
        due.is("cost alone told: teach", x.learn(1, 0, 50, 0), 1);
    }

    private static void whatIsAsked() {
        due.sentence("Of a BODY and a PART on a day: body, part: numbers; known; last; load; idle; heavy: the PART's LOAD (READER 0); hard; day; counts.");
        String works = "floor 1 1 hard 9;work a;part z at 0 0 n;work b;note c at 0 0 aaff;";
        String[] asks = {"body", "part", "known", "last", "load", "idle", "heavy", "hard", "day", "counts"};
        int[] bare = {2, 1, 0, 999, 0, 999, 17, 9, 50, 4};
        int[] told = {2, 1, 40, 9, 17 + 3, 3, 17, 9, 50, 4};
        for (int i = 0; i < asks.length; i++) {
            DanceCompany x = Due.company(works, 3);
            x.reads(1, 0, 5);
            Due.rules(x, "cost " + asks[i] + ";", 50);
            x.knows(2, 1, 50);
            due.is(asks[i] + " with nothing danced", x.cost(1, 50, 0), bare[i]);
            x.knows(2, 1, 10);
            x.danced(2, 1, 41);
            x.danced(2, 0, 47);
            x.danced(2, 1, 50);
            due.is(asks[i], x.cost(1, 50, 0), i == 4 ? 3 : told[i]);
            x.danced(2, 1, 43);
            due.is(asks[i] + " on day 50", x.cost(1, 50, 0), i == 3 ? 7 : told[i]);
        }
    }
}
