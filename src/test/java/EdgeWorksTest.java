/**
 * The sentences of the document that name a boundary case of works: the first part of its terms, and promises
 * 1 to 4 and 6 to 15. Each stands above the calls that bear it out.
 */
public final class EdgeWorksTest {
    private static final Due due = new Due("EdgeWorksTest");
    private static final int MIN = Integer.MIN_VALUE;
    private static final int MAX = Integer.MAX_VALUE;
    private static final String RESERVED = "floor hard work part note at may cost teach when and or not body known last load idle heavy"
            + " day counts";

    public static void main(String[] args) {
        newObject();
        longestText();
        lines();
        words();
        numbers();
        signs();
        blanks();
        longestToken();
        letterBehindNumber();
        reservedWords();
        floor();
        fourWorks();
        twelveParts();
        places();
        counts();
        stepLetters();
        faultPlaces();
        leastFault();
        readers();
        behind();
        meeting();
        breaking();
        loading();
        liking();
        rivals();
        feed();
        end();
        worksReplace();
        worksThrice();
        faultOfLatest();
        due.end();
    }

    /** A work with so many parts, named a and then pa, pb ..., each told by what follows its name. */
    static String workOf(String name, String kind, int parts, String rest) {
        StringBuilder s = new StringBuilder("work ").append(name).append(';');
        for (int i = 0; i < parts; i++) {
            s.append(kind).append(' ').append(name).append('p').append((char) ('a' + i)).append(' ').append(rest).append(';');
        }
        return s.toString();
    }

    private static void newObject() {
        due.sentence("No WORKS, no BODIES, no RULES.");
        DanceCompany x = new DanceCompany();
        int[] want = {0, 0, 0, 0, 0, 0, 0, 0, 10, 10, 0};
        for (int what = 0; what < want.length; what++) {
            due.is("about " + what, x.about(what), want[what]);
        }
        due.is("part", x.part(0, 0), -1);
        due.is("step", x.step(0, 1, 0), -1);
        due.is("where", x.where(0, 0, 0), -1);
        due.is("meet", x.meet(0, 0), -1);
        due.is("breaks", x.breaks(0, 0, 1, 1), -1);
        due.is("load", x.load(0, 0), -1);
        due.is("like", x.like(0, 0, 0), -1);
        due.is("rival", x.rival(0), -1);
        due.is("knows", x.knows(0, 0, 0), -1);
        due.is("danced", x.danced(0, 0, 0), -1);
        due.is("out", x.out(0, 0, 0), -1);
        due.is("leaves", x.leaves(0, 0), -1);
        due.is("film", x.film(0, 1, 0), -1);
        due.is("untell", x.untell(0), false);
        due.is("borne", x.borne(0, 0, 0), -1);
        due.is("asked", x.asked(0, 0, 0, 0, 0), -1);
        due.is("can", x.can(0, 0, 0, 0), -1);
        due.is("cost", x.cost(0, 0, 0), -1000000000000L);
        due.is("cast", x.cast(0, 0, 0), -1);
        due.is("covers", x.covers(0, 0, 0), -1);
        due.is("fall", x.fall(0, 0, 0, 0), -1);
        due.is("falls", x.falls(0, 0, 0, 0), -1);
        due.is("learn", x.learn(0, 0, 0, 0), -1);
        due.is("rehearse", x.rehearse(0, 0), -1);
        due.is("week", x.week(0), 0);
        due.is("hour", x.hour(0, 0), -1);
        due.is("live", x.live(0, 0, 0), 0);
        due.is("note", x.note(0, 0, 0), 0);
        due.sentence("The constants: NONE = -1");
        due.is("NONE", DanceCompany.NONE, -1);
    }

    private static void longestText() {
        due.sentence("WORKS are a text of at most 1,400 bytes (empty at first)");
        due.worksFine(" ".repeat(1393) + "work a;", 1);
        due.worksFine("work a;" + "\n".repeat(1393), 1);
        due.worksFault(" ".repeat(1392) + "work a;;", 2, 1399);
        due.worksFault(" ".repeat(1394) + "work a", 2, 1400);
    }

    private static void lines() {
        due.sentence("works = {line}");
        due.worksFine("", 0);
        due.worksFine(" ", 0);
        due.worksFault(";", 2, 0);
        due.sentence("line = floor N N hard N ;");
        String floor = "floor 1 2 hard 3 ;";
        due.worksFine(floor, 1);
        for (int[] cut : new int[][] {{6, 6}, {8, 8}, {10, 10}, {15, 15}, {17, 17}}) {
            due.worksFault(floor.substring(0, cut[0]), 2, cut[1]);
        }
        due.worksFault("floor 1 2 3 hard 4;", 2, 10);
        due.worksFault("floor 1 2 hard 3 4;", 2, 17);
        due.worksFault("floor 1 2 at 3;", 2, 10);
        due.sentence("work NAME ;");
        due.worksFault("work", 2, 4);
        due.worksFault("work ;", 2, 5);
        due.worksFault("work 1;", 2, 5);
        due.worksFault("work a", 2, 6);
        due.worksFault("work a b;", 2, 7);
        due.sentence("(part | note) NAME at N N WORD {WORD} ;");
        for (String kind : new String[] {"part", "note"}) {
            String step = kind.equals("part") ? "n" : "a";
            String line = "work w;" + kind + " b at 1 2 " + step + " " + step + step + ";";
            due.worksFine(line, 2);
            for (int cut : new int[] {12, 14, 17, 19, 21, 22, 24, 25}) {
                due.worksFault(line.substring(0, cut), 2, cut);
            }
            due.worksFault("work w;" + kind + " 1 at 1 2 " + step + ";", 2, 12);
            due.worksFault("work w;" + kind + " b 1 2 " + step + ";", 2, 14);
            due.worksFault("work w;" + kind + " b at " + step + ";", 2, 17);
            due.worksFault("work w;" + kind + " b at 1 " + step + ";", 2, 19);
            due.worksFault("work w;" + kind + " b at 1 2;", 2, 20);
            due.worksFault("work w;" + kind + " b at 1 2 3 " + step + ";", 2, 21);
            due.worksFault("work w;" + kind + " b at 1 2 " + step + " 3;", 2, 23);
        }
    }

    private static void words() {
        due.sentence("words (a .. z, 8 at most)");
        due.worksFine("work a;work z;work azazazaz;work zzzzzzzz;", 4);
        due.worksFault("work azazazaza;", 2, 13);
        due.worksFault("work aaaaaaaa aaaaaaaa;", 2, 14);
        due.worksFault("work `;", 1, 5);
        due.worksFault("work {;", 1, 5);
        due.worksFault("work A;", 1, 5);
        due.worksFault("work Z;", 1, 5);
        due.worksFault("work a_b;", 1, 6);
        due.worksFault("work a1;", 2, 6);
        due.sentence("a NAME told already");
        String[] near = {"a", "aa", "aaa", "aaaaaaaa", "p", "ap", "pa", "q", "bq", "z", "az", "za", "zzzzzzzz", "zzzzzzz",
            "zzzzzzzy", "yzzzzzzz"};
        StringBuilder all = new StringBuilder();
        for (int i = 0; i < 16; i++) {
            all.append(i % 4 == 0 ? "work " : "part ").append(near[i]).append(i % 4 == 0 ? ";" : " at 0 0 n;");
        }
        due.worksFine(all.toString(), 16);
        for (String first : near) {
            for (String second : near) {
                String text = "work " + first + ";work " + second + ";";
                if (first.equals(second)) {
                    due.worksFault(text, 3, 11 + first.length());
                } else {
                    due.worksFine(text, 2);
                }
            }
        }
        due.worksFault("work a;part a at 0 0 n;", 3, 12);
        due.worksFault("work a;note a at 0 0 a;", 3, 12);
        due.worksFault("work a;part b at 0 0 n;part b at 0 0 n;", 3, 28);
        due.worksFault("work a;note b at 0 0 a;work c;part b at 0 0 n;", 3, 35);
        due.worksFault("work a;part b at 0 0 n;work b;", 3, 28);
        due.worksFault("work a;work b;work c;work c;", 3, 26);
        due.worksFine("work n;part e at 0 0 n e n e;note a at 0 0 a e a;", 3);
    }

    private static void numbers() {
        due.sentence("N (1 to 4 digits)");
        DanceCompany x = new DanceCompany();
        due.is("1 to 4 digits", Due.works(x, "floor 0020 019 hard 09;work w;part p at 8 0007 n;"), 3);
        due.is("wide", x.about(8), 20);
        due.is("deep", x.about(9), 19);
        due.is("hard", x.about(10), 9);
        due.is("x", x.part(0, 3), 8);
        due.is("y", x.part(0, 4), 7);
        due.is("a fifth digit is another N", Due.works(x, "floor 00123 hard 0004;"), 1);
        due.is("wide", x.about(8), 12);
        due.is("deep", x.about(9), 3);
        due.worksFault("floor 00010 5 hard 1;", 4, 10);
        due.worksFault("floor 1 1 hard 00001;", 2, 19);
        due.worksFault("floor 9999 1 hard 1;", 4, 6);
        due.worksFault("floor /;", 1, 6);
        due.worksFault("floor :;", 1, 6);
        due.worksFault("floor 1/;", 1, 7);
        due.worksFault("floor 1:;", 1, 7);
    }

    private static void signs() {
        due.sentence("signs ; ( ) < > = + - *; ... 1 no TOKEN; 2 one that can't stand there");
        for (int b = 0; b < 256; b++) {
            char c = (char) b;
            boolean blank = b == 32 || b == 10;
            boolean token = c >= 'a' && c <= 'z' || c >= '0' && c <= '9' || ";()<>=+-*".indexOf(c) >= 0;
            if (blank) {
                due.worksFine("" + c, 0);
                due.worksFine("work" + c + "a;", 1);
                due.rulesFine("" + c);
            } else {
                due.worksFault("" + c, token ? 2 : 1, 0);
                due.worksFault("work w;" + c, token ? 2 : 1, 7);
                due.rulesFault("" + c, token ? 2 : 1, 0);
                due.rulesFault("cost 1;" + c, token ? 2 : 1, 7);
            }
        }
    }

    private static void blanks() {
        due.sentence("blanks (32, 10) part them or not");
        due.worksFine("floor1 2 hard3;work a;part b at0 0 n;", 3);
        due.worksFine("\n floor \n 1\n2 \n\nhard\n3 ;\n work \n a \n; part\nb\nat\n0\n0\nn\n;\n", 3);
        due.worksFine("work a;work b;", 2);
        due.worksFault("workb;", 2, 0);
        due.worksFault("work\ta;", 1, 4);
        due.worksFault("work\ra;", 1, 4);
        due.worksFault("work\u000ba;", 1, 4);
        due.worksFault("work\u00a0a;", 1, 4);
    }

    private static void longestToken() {
        due.sentence("each is as long as can be");
        due.worksFault("works a;", 2, 0);
        due.worksFault("wor k a;", 2, 0);
        due.worksFault("work a;part b at01 2n;", 1, 20);
        due.worksFault("work a;part b at 12n;", 1, 19);
        due.worksFault("work a;part b at 12 n;", 2, 20);
        due.worksFine("floor 12 2 hard 2;", 1);
        due.worksFault("floor 122 hard 2;", 4, 6);
        DanceCompany x = Due.company("work a;part b at 0 0 nnnnnnnnnoooooooox;", 0);
        due.is("18 letters are three words", x.part(0, 1), 18);
        due.is("the 9th", x.step(0, 9, 0), 0);
        due.is("the 10th", x.step(0, 10, 0), 4);
        due.is("the 18th", x.step(0, 18, 0), 5);
    }

    private static void letterBehindNumber() {
        due.sentence("no letter directly behind an N");
        due.worksFault("floor 5 5hard 0;", 1, 9);
        due.worksFine("floor 5 5 hard 0;", 1);
        due.worksFine("floor 5 5\nhard 0;", 1);
        due.worksFault("floor 0005 0005hard 0;", 1, 15);
        due.worksFault("work a;part b at 0 0n;", 1, 20);
        due.worksFault("5a", 2, 0);
        due.worksFault("floor 5a", 1, 7);
        due.rulesFault("cost 1or 0;", 1, 6);
        due.rulesFault("cost 1234or 0;", 1, 9);
        due.rulesFault("cost (1)or 0body;", 1, 12);
        due.rulesFine("cost (1)or(0);");
        due.rulesFine("cost(0)or 0;");
    }

    private static void reservedWords() {
        due.sentence("Words that stand for themselves here and in RULES are no NAMES, nor WORDS of steps.");
        String[] all = RESERVED.split(" ");
        due.is("words", all.length, 21);
        for (String word : all) {
            due.worksFault("work " + word + ";", 2, 5);
            due.worksFault("work a;part " + word + " at 0 0 n;", 2, 12);
            due.worksFault("work a;note " + word + " at 0 0 a;", 2, 12);
            due.worksFault("work a;part b at 0 0 " + word + ";", 2, 21);
            due.worksFault("work a;note b at 0 0 " + word + ";", 2, 21);
            due.worksFault("work a;part b at 0 0 n " + word + ";", 2, 23);
            due.worksFault("work a;note b at 0 0 a " + word + ";", 2, 23);
            due.worksFine("work " + word + "s;", 1);
            due.worksFine("work x" + word + ";", 1);
            due.worksFine("work " + word.substring(1) + ";", 1);
        }
        due.worksFine("work step;work reader;work leaves;work rules;", 4);
    }

    private static void floor() {
        due.sentence("floor, once: ... floor a second time: at the line's first word");
        due.worksFault("floor 1 1 hard 1;floor 1 1 hard 1;", 2, 17);
        due.worksFault("floor 1 1 hard 1;work a;floor", 2, 24);
        due.sentence("wide and deep (1 .. 20 each; 10 and 10 if not told), hard (0 .. 9; 0)");
        int[] widths = {0, 1, 2, 19, 20, 21, 99, 9999};
        for (int width : widths) {
            DanceCompany x = new DanceCompany();
            boolean can = width >= 1 && width <= 20;
            due.is("floor wide " + width, Due.works(x, "floor " + width + " 7 hard 1;"), can ? 1 : -1);
            due.is("fault", x.fault(0), can ? 0 : 4);
            due.is("place", x.fault(1), can ? -1 : 6);
            due.is("wide", x.about(8), can ? width : 10);
            due.is("floor deep " + width, Due.works(x, "floor 7 " + width + " hard 1;"), can ? 1 : -1);
            due.is("fault", x.fault(0), can ? 0 : 4);
            due.is("place", x.fault(1), can ? -1 : 8);
            due.is("deep", x.about(9), can ? width : 10);
        }
        for (int hard = 0; hard <= 11; hard++) {
            DanceCompany x = new DanceCompany();
            due.is("floor hard " + hard, Due.works(x, "floor 1 1 hard " + hard + ";"), hard <= 9 ? 1 : -1);
            due.is("fault", x.fault(0), hard <= 9 ? 0 : 4);
            due.is("place", x.fault(1), hard <= 9 ? -1 : 15);
            due.is("hard", x.about(10), hard <= 9 ? hard : 0);
        }
        DanceCompany x = Due.company("work a;", 0);
        due.is("wide if not told", x.about(8), 10);
        due.is("deep if not told", x.about(9), 10);
        due.is("hard if not told", x.about(10), 0);
        due.worksFine("work a;part b at 19 19 n;floor 1 1 hard 0;", 3);
    }

    private static void fourWorks() {
        due.sentence("At most 4 WORKS, numbered as told; ... a 5th WORK: at the line's first word");
        String four = "work d;work c;work b;work a;";
        DanceCompany x = Due.company(four + "part p at 0 0 n;", 0);
        due.is("four", x.about(0), 4);
        due.is("the last told is 3", x.part(0, 0), 3);
        due.worksFault(four + "work e;", 2, 28);
        due.worksFault(four + "work", 2, 28);
        due.worksFault(four + "work a;", 2, 28);
        due.worksFault(four + "work 1;", 2, 28);
    }

    private static void twelveParts() {
        due.sentence("PARTS (12 in all, 8 of a WORK, numbered as told) are of the WORK told last ahead of them");
        String eight = workOf("a", "part", 8, "at 0 0 n");
        String five = workOf("a", "part", 5, "at 0 0 n");
        due.worksFine(eight, 9);
        due.worksFine(eight + workOf("b", "note", 4, "at 0 0 a"), 14);
        due.worksFine(five + workOf("b", "part", 7, "at 0 0 n") + "work c;work d;", 16);
        DanceCompany x = Due.company("work a;" + workOf("b", "part", 1, "at 1 0 n") + workOf("c", "note", 8, "at 2 0 a")
                + workOf("d", "part", 3, "at 3 0 n"), 0);
        for (int part = 0; part < 12; part++) {
            due.is("its work", x.part(part, 0), part == 0 ? 1 : part < 9 ? 2 : 3);
            due.is("a note", x.part(part, 2), part > 0 && part < 9 ? 1 : 0);
        }
        due.is("no 13th", x.part(12, 0), -1);
        due.sentence("a PART without a WORK, a 13th, a WORK's 9th: at the line's first word");
        due.worksFault("part a at 0 0 n;work b;", 2, 0);
        due.worksFault("floor 1 1 hard 1;note a at 0 0 a;", 2, 17);
        for (String kind : new String[] {"part", "note"}) {
            due.worksFault(eight + kind + " z at 0 0 e;", 2, eight.length());
            due.worksFault(eight + kind, 2, eight.length());
            String twelve = five + workOf("b", "part", 7, "at 0 0 n");
            due.worksFault(twelve + kind + " z at 0 0 e;", 2, twelve.length());
            due.worksFault(twelve + kind + " a", 2, twelve.length());
            due.worksFault(twelve + "work c;" + kind + " z at 0 0 e;", 2, twelve.length() + 7);
        }
    }

    private static void places() {
        due.sentence("begin at x, y (0 .. 19 each)");
        for (int at : new int[] {0, 1, 18, 19, 20, 21, 100, 9999}) {
            DanceCompany x = new DanceCompany();
            due.is("at x " + at, Due.works(x, "work a;note b at " + at + " 5 a;"), at <= 19 ? 2 : -1);
            due.is("fault", x.fault(0), at <= 19 ? 0 : 4);
            due.is("place", x.fault(1), at <= 19 ? -1 : 17);
            due.is("x", x.part(0, 3), at <= 19 ? at : -1);
            due.is("at y " + at, Due.works(x, "work a;part b at 5 " + at + " n;"), at <= 19 ? 2 : -1);
            due.is("fault", x.fault(0), at <= 19 ? 0 : 4);
            due.is("place", x.fault(1), at <= 19 ? -1 : 19);
            due.is("y", x.part(0, 4), at <= 19 ? at : -1);
        }
        due.worksFine("floor 1 1 hard 0;work a;part b at 19 19 n;", 3);
    }

    private static void counts() {
        due.sentence("have 1 to 32 COUNTS, the letters of their WORDS, one behind the other");
        for (int many : new int[] {1, 2, 8, 9, 31, 32}) {
            DanceCompany x = Due.company("work a;part b at 0 0 " + "n".repeat(many - 1) + "x;", 0);
            due.is("counts", x.part(0, 1), many);
            due.is("the last", x.step(0, many, 0), 5);
            due.is("none behind it", x.step(0, many + 1, 0), -1);
            DanceCompany y = Due.company("work a;note b at 0 0 " + "c ".repeat(many) + ";", 0);
            due.is("counts", y.part(0, 1), many);
            due.is("the last", y.step(0, many, 1), 2);
        }
        due.worksFault("work a;part b at 0 0;", 2, 20);
        due.sentence("5 ... by which there are more than 32 COUNTS");
        due.worksFault("work a;part b at 0 0 " + "n".repeat(33) + ";", 5, 21 + 32);
        due.worksFault("work a;part b at 0 0 " + "n ".repeat(33) + ";", 5, 21 + 64);
        due.worksFault("work a;part b at 0 0 " + "n ".repeat(31) + "nn;", 5, 21 + 62);
        due.worksFault("work a;part b at 0 0 " + "n ".repeat(25) + "nnnnnnnn;", 5, 21 + 50);
        due.worksFine("work a;part b at 0 0 " + "n ".repeat(24) + "nnnnnnnn;", 2);
        due.worksFault("work a;note b at 0 0 " + "h".repeat(33) + ";", 5, 21 + 32);
        due.worksFault("work a;note b at 0 0 " + "h ".repeat(40) + ";", 5, 21 + 64);
        due.worksFault("work a;part b at 0 0 " + "n".repeat(32) + " z;", 5, 21 + 33);
        due.worksFault("work a;part b at 0 0 " + "n".repeat(32) + " at;", 2, 21 + 33);
    }

    private static void stepLetters() {
        due.sentence("of a part n, e, s, w, o, x; of a note signs a .. h; ... 5 a WORD with a letter that is no step (sign)");
        for (char c = 'a'; c <= 'z'; c++) {
            String steps = "neswox";
            DanceCompany x = new DanceCompany();
            int step = steps.indexOf(c);
            due.is("part " + c, Due.works(x, "work a;part b at 0 0 n" + c + ";"), step >= 0 ? 2 : -1);
            due.is("fault", x.fault(0), step >= 0 ? 0 : 5);
            due.is("place", x.fault(1), step >= 0 ? -1 : 21);
            due.is("step", x.step(0, 2, 0), step);
            DanceCompany y = new DanceCompany();
            boolean sign = c <= 'h';
            due.is("note " + c, Due.works(y, "work a;note b at 0 0 a " + c + ";"), sign ? 2 : -1);
            due.is("fault", y.fault(0), sign ? 0 : 5);
            due.is("place", y.fault(1), sign ? -1 : 23);
        }
        due.worksFault("work a;part b at 0 0 n nnnnnnna;", 5, 23);
        due.worksFault("work a;part b at 0 0 nnnnnnnna;", 5, 29);
        due.sentence("n (y less 1), e (x more 1), s (y more 1), w (x less 1), o (stays), x (leaps: stays)");
        int[] where = {105104, 106105, 105106, 104105, 105105, 105105};
        for (int step = 0; step < 6; step++) {
            DanceCompany x = Due.company("work a;part b at 5 5 " + "neswox".charAt(step) + ";", 0);
            due.is("where " + step, x.where(0, 1, 0), where[step]);
            due.is("where " + step, x.where(0, 1, 1), where[step]);
        }
    }

    private static void faultPlaces() {
        due.sentence("FAULTS, the first by its place (bytes from 0; the end: the text's length)");
        due.worksFault("?", 1, 0);
        due.worksFault("work", 2, 4);
        due.worksFault("work   ", 2, 7);
        due.worksFault("work a\n\n", 2, 8);
        due.worksFault("floor 0 ?", 4, 6);
        due.worksFault("floor 5 ? 0", 1, 8);
        due.worksFault("work a;work a;?", 3, 12);
        due.worksFault("work a;work ?;work a;", 1, 12);
        due.worksFault("work a;part b at 0 0 z ?", 5, 21);
        due.worksFault("work a;part b at 20 20 z;", 4, 17);
        due.worksFault("work a;part b at 0 20 z;", 4, 19);
        due.worksFault("work a;part a at 20 20 z;", 3, 12);
        due.worksFault("part a at 20 20 z;?", 2, 0);
        due.rulesFault("cost 1 2 ?", 2, 7);
        due.rulesFault("cost 1 ? 2", 1, 7);
        due.rulesFault("may when 1   ", 2, 13);
    }

    private static void leastFault() {
        due.sentence("at one place the least");
        due.worksFault("work a a;", 2, 7);
        due.worksFault("work a 9999;", 2, 7);
        due.worksFault("work a zz;", 2, 7);
        due.worksFault("floor 5work", 1, 7);
        due.worksFault("floor 5 work", 2, 8);
        due.worksFault("work a;part b at 0 0n", 1, 20);
        due.worksFault("work a;part b at 0 0 n 9999;", 2, 23);
        due.worksFault("work 0;", 2, 5);
        due.rulesFault("cost 0a;", 1, 6);
    }

    private static void readers() {
        due.sentence("READERS 0 and 1 read a sign as a step (at first sign a as n, b as e, .. f as x, g and h as o)");
        DanceCompany x = Due.company("work a;note b at 0 0 abcdefgh;part c at 0 0 neswox;", 0);
        int[] first = {0, 1, 2, 3, 4, 5, 4, 4};
        for (int reader = 0; reader < 2; reader++) {
            for (int sign = 0; sign < 8; sign++) {
                due.is("sign " + sign, x.step(0, sign + 1, reader), first[sign]);
            }
        }
        due.sentence("A READER reads a sign (0 .. 7) as a step from now on: true; false, doing nothing, if one can't be.");
        int[] odd = {-1, MIN, MAX};
        for (int wrong : odd) {
            due.is("reader", x.reads(wrong, 0, 5), false);
            due.is("sign", x.reads(0, wrong, 5), false);
            due.is("step", x.reads(0, 0, wrong), false);
        }
        due.is("reader 2", x.reads(2, 0, 5), false);
        due.is("sign 8", x.reads(1, 8, 5), false);
        due.is("step 6", x.reads(1, 7, 6), false);
        due.is("as at first", x.step(0, 1, 0), 0);
        for (int sign = 0; sign < 8; sign++) {
            for (int step = 0; step < 6; step++) {
                due.is("reads", x.reads(1, sign, step), true);
                due.is("as read", x.step(0, sign + 1, 1), step);
            }
            due.is("not by the other", x.step(0, sign + 1, 0), first[sign]);
        }
        due.is("reads by reader 0", x.reads(0, 0, 3), true);
        due.is("as read", x.step(0, 1, 0), 3);
        due.sentence("A part is read alike by both.");
        for (int count = 1; count <= 6; count++) {
            due.is("reader 0", x.step(1, count, 0), count - 1);
            due.is("reader 1", x.step(1, count, 1), count - 1);
        }
        due.sentence("The step of a PART at a count (1 ..) by a READER; NONE if one is none.");
        for (int count : new int[] {0, 9, -1, MIN, MAX}) {
            due.is("count " + count, x.step(0, count, 0), -1);
        }
        due.is("count 7 of 6", x.step(1, 7, 0), -1);
        for (int wrong : new int[] {2, -1, MIN, MAX}) {
            due.is("reader " + wrong, x.step(0, 1, wrong), -1);
            due.is("part " + wrong, x.step(wrong, 1, 0), -1);
        }
    }

    private static void behind() {
        due.sentence("BEHIND count c (0: as it begins) a PART is where its steps up to the c-th lead it (behind its last one it stays)");
        DanceCompany x = Due.company("work a;part b at 3 4 ees;note c at 0 0 " + "a".repeat(32) + ";part d at 19 19 "
                + "s".repeat(32) + ";part f at 0 19 " + "w".repeat(32) + ";part g at 19 0 " + "e".repeat(32) + ";", 0);
        int[] want = {103104, 104104, 105104, 105105, 105105};
        for (int count = 0; count < want.length; count++) {
            due.is("behind " + count, x.where(0, count, 0), want[count]);
        }
        due.is("behind 32 of 3", x.where(0, 32, 0), 105105);
        due.sentence("Where a PART is BEHIND a count (0 .. 32): 1000 * (x + 100) + y + 100; NONE if one is none.");
        due.is("farthest north", x.where(1, 32, 0), 100068);
        due.is("farthest south", x.where(2, 32, 0), 119151);
        due.is("farthest west", x.where(3, 32, 1), 68119);
        due.is("farthest east", x.where(4, 32, 1), 151100);
        due.is("behind 31", x.where(1, 31, 0), 100069);
        for (int count : new int[] {-1, 33, MIN, MAX}) {
            due.is("count " + count, x.where(0, count, 0), -1);
        }
        for (int wrong : new int[] {-1, MIN, MAX}) {
            due.is("reader " + wrong, x.where(0, 0, wrong), -1);
            due.is("part " + wrong, x.where(wrong, 0, 0), -1);
        }
        due.is("reader 2", x.where(0, 0, 2), -1);
        due.is("part 5", x.where(5, 0, 0), -1);
    }

    private static void meeting() {
        due.sentence("MEET of a WORK by a READER: the first count (0 .. 32) behind which two of its PARTS are in one place");
        due.is("behind 0", Due.company("work a;part b at 1 1 n;part c at 1 1 n;", 0).meet(0, 0), 0);
        due.is("behind 1", Due.company("work a;part b at 1 1 e;part c at 2 1 o;", 0).meet(0, 0), 1);
        String late = "work a;part b at 0 0 " + "o".repeat(31) + "s;part c at 0 1 o;";
        due.is("behind 32", Due.company(late, 0).meet(0, 0), 32);
        due.is("never", Due.company("work a;part b at 0 0 e;part c at 0 1 e;", 0).meet(0, 0), -1);
        due.is("one x, two y", Due.company("work a;part b at 0 0 o;part c at 0 1 o;", 0).meet(0, 0), -1);
        due.is("one y, two x", Due.company("work a;part b at 0 0 o;part c at 1 0 o;", 0).meet(0, 0), -1);
        due.is("met again later, the first counts", Due.company("work a;part b at 0 0 ewe;part c at 1 0 o;", 0).meet(0, 0), 1);
        due.is("beyond the floor", Due.company("floor 1 1 hard 0;work a;part b at 0 0 n;part c at 1 0 nw;", 0).meet(0, 0), 2);
        StringBuilder eight = new StringBuilder("work a;");
        for (int i = 0; i < 8; i++) {
            eight.append("part b").append((char) ('a' + i)).append(" at ").append(2 * i).append(" 0 ").append(i == 7 ? "oww" : "o").append(';');
        }
        DanceCompany x = Due.company(eight + "work c;part d at 0 0 o;part f at 0 0 o;", 0);
        due.is("the 7th and the 8th", x.meet(0, 0), 3);
        due.is("of the second work", x.meet(1, 1), 0);
        due.sentence("MEET; NONE if no two do, or one is none.");
        due.is("no parts", Due.company("work a;", 0).meet(0, 0), -1);
        due.is("one part", Due.company("work a;part b at 0 0 n;", 0).meet(0, 0), -1);
        due.is("two of two works", Due.company("work a;part b at 0 0 n;work c;part d at 0 0 n;", 0).meet(0, 0), -1);
        for (int wrong : new int[] {2, -1, MIN, MAX}) {
            due.is("work " + wrong, x.meet(wrong, 0), -1);
            due.is("reader " + wrong, x.meet(1, wrong), -1);
        }
    }

    private static void breaking() {
        due.sentence("BREAK: the first behind which one is not on the floor (0 .. wide - 1, 0 .. deep - 1), if it is only so wide and deep");
        DanceCompany x = Due.company("work a;part b at 2 2 essswwwwnnnnnn;work c;work d;part f at 19 19 o;", 0);
        due.is("x is wide - 1 at most", x.breaks(0, 0, 4, 20), 8);
        due.is("x is wide", x.breaks(0, 0, 3, 20), 1);
        due.is("y is deep - 1 at most", x.breaks(0, 0, 20, 6), 8);
        due.is("y is deep", x.breaks(0, 0, 20, 5), 4);
        due.is("behind 0 by width", x.breaks(0, 0, 2, 20), 0);
        due.is("behind 0 by depth", x.breaks(0, 0, 20, 2), 0);
        due.is("x below 0", x.breaks(0, 0, 20, 20), 8);
        due.is("y below 0", Due.company("work a;part b at 5 0 on;", 0).breaks(0, 0, 20, 20), 2);
        due.is("in the corner 0 0", Due.company("work a;part b at 0 0 o;", 0).breaks(0, 0, 1, 1), -1);
        due.is("in the corner 19 19", x.breaks(2, 0, 20, 20), -1);
        due.is("behind 32", Due.company("work a;part b at 0 0 " + "o".repeat(31) + "e;", 0).breaks(0, 0, 1, 1), 32);
        StringBuilder eight = new StringBuilder("work a;");
        for (int i = 0; i < 8; i++) {
            eight.append("part b").append((char) ('a' + i)).append(" at 0 0 ").append(i == 7 ? "oow" : "o").append(';');
        }
        due.is("the 8th", Due.company(eight.toString(), 0).breaks(0, 1, 20, 20), 3);
        due.sentence("BREAK; NONE if it does not, or one is none (wide, deep 1 .. 20).");
        due.is("no parts", x.breaks(1, 0, 1, 1), -1);
        for (int wrong : new int[] {-1, 0, 21, MIN, MAX}) {
            due.is("wide " + wrong, x.breaks(0, 0, wrong, 1), -1);
            due.is("deep " + wrong, x.breaks(0, 0, 1, wrong), -1);
        }
        for (int wrong : new int[] {3, -1, MIN, MAX}) {
            due.is("work " + wrong, x.breaks(wrong, 0, 1, 1), -1);
            due.is("reader " + wrong, x.breaks(0, wrong, 1, 1), -1);
        }
        due.is("reader 2", x.breaks(0, 2, 1, 1), -1);
    }

    private static void loading() {
        due.sentence("LOAD of a PART by a READER: 1 for each n, e, s, w, 3 for each x, and COUNTS * hard / 4 (cut)");
        for (int step = 0; step < 6; step++) {
            int each = step < 4 ? 1 : step == 4 ? 0 : 3;
            DanceCompany x = Due.company("work a;part b at 0 0 " + ("" + "neswox".charAt(step)).repeat(32) + ";", 0);
            due.is("step " + step, x.load(0, 0), 32 * each);
        }
        for (int hard = 0; hard <= 9; hard++) {
            DanceCompany x = Due.company("floor 1 1 hard " + hard + ";work a;part b at 0 0 o;part c at 0 0 oo;part d at 0 0 ooo;part f at 0 0 oooo;"
                    + "part g at 0 0 " + "o".repeat(32) + ";", 0);
            int[] counts = {1, 2, 3, 4, 32};
            for (int part = 0; part < 5; part++) {
                due.is("hard " + hard + ", counts " + counts[part], x.load(part, 1), (int) Math.floor(counts[part] * hard / 4.0));
            }
        }
        due.sentence("LOAD; NONE if one is none.");
        DanceCompany x = Due.company("work a;note b at 0 0 a;", 0);
        due.is("reader 1", x.load(0, 1), 1);
        for (int wrong : new int[] {2, -1, MIN, MAX}) {
            due.is("part " + wrong, x.load(wrong, 0), -1);
            due.is("reader " + wrong, x.load(0, wrong), -1);
        }
        due.is("part 1", x.load(1, 0), -1);
    }

    private static void liking() {
        due.sentence("LIKE of two PARTS: at how many counts both have a step, the same");
        DanceCompany x = Due.company("work a;part b at 0 0 " + "n".repeat(32) + ";part c at 5 5 n;part d at 0 0 ennn;note f at 0 0 aaab;work g;part h at 0 0 "
                + "e".repeat(32) + ";", 0);
        int[][] want = {{32, 1, 3, 3, 0}, {1, 1, 0, 1, 0}, {3, 0, 4, 2, 1}, {3, 1, 2, 4, 1}, {0, 0, 1, 1, 32}};
        for (int a = 0; a < 5; a++) {
            for (int b = 0; b < 5; b++) {
                due.is("like " + a + " " + b, x.like(a, b, 0), want[a][b]);
            }
        }
        due.sentence("LIKE; NONE if one is none.");
        for (int wrong : new int[] {5, -1, MIN, MAX}) {
            due.is("a " + wrong, x.like(wrong, 0, 0), -1);
            due.is("b " + wrong, x.like(0, wrong, 0), -1);
            due.is("reader " + wrong, x.like(0, 0, wrong), -1);
        }
        due.is("reader 2", x.like(0, 0, 2), -1);
    }

    private static void rivals() {
        due.sentence("RIVAL of a note: the first count (from 1 on) at which both READERS read otherwise; NONE if there is none, or it is no note.");
        DanceCompany x = Due.company("work a;note b at 0 0 " + "h".repeat(31) + "a;part c at 0 0 n;note d at 0 0 b;", 0);
        due.is("none", x.rival(0), -1);
        x.reads(1, 0, 5);
        due.is("at the 32nd", x.rival(0), 32);
        due.is("not of another note", x.rival(2), -1);
        due.is("no note", x.rival(1), -1);
        x.reads(0, 7, 0);
        due.is("at the 1st", x.rival(0), 1);
        x.reads(1, 7, 0);
        due.is("both read it otherwise, but alike", x.rival(0), 32);
        for (int wrong : new int[] {3, -1, MIN, MAX}) {
            due.is("part " + wrong, x.rival(wrong), -1);
        }
        due.sentence("Of a PART what 0: its WORK, 1: COUNTS, 2: 1 if it is a note, else 0, 3: x as it begins, 4: y. NONE if there is none such.");
        int[] want = {0, 32, 1, 0, 0};
        for (int what = 0; what < 5; what++) {
            due.is("what " + what, x.part(0, what), want[what]);
        }
        due.is("no note", x.part(1, 2), 0);
        for (int wrong : new int[] {5, -1, MIN, MAX}) {
            due.is("part " + wrong, x.part(wrong, 0), -1);
            due.is("what " + wrong, x.part(0, wrong), -1);
        }
        due.is("part 3", x.part(3, 0), -1);
    }

    private static void feed() {
        due.sentence("Twenty bytes come behind those on the TAPE, of each number the highest first: how many there are");
        DanceCompany x = new DanceCompany();
        due.is("work abcdefgh;part a", x.feed(0x776f726b, 0x20616263, 0x64656667, 0x683b7061, 0x72742061), 20);
        due.is(" at 12 13 nesw; n   ", x.feed(0x20617420, 0x31322031, 0x33206e65, 0x73773b20, 0x6e202020), 40);
        due.is("its last bytes are taken off", x.end(35), 35);
        due.is("bytes come behind these", x.feed(0x776f726b, 0x20623b6e, 0x6f746520, 0x63206174, 0x20302030), 55);
        due.is("bytes come behind these", x.feed(0x20686766, 0x3b202020, 0x20202020, 0x0a0a0a0a, 0x20202020), 75);
        due.is("works", x.works(), 4);
        due.is("x", x.part(0, 3), 12);
        due.is("y", x.part(0, 4), 13);
        due.is("counts", x.part(0, 1), 4);
        due.is("of work", x.part(1, 0), 1);
        due.is("g and h and f", x.step(1, 3, 0), 5);
        due.is("bytes above 127", x.feed(0x80ffffff, -1, MIN, 0, MAX), 20);
        due.is("they are no tokens", x.works(), -1);
        due.is("fault", x.fault(0), 1);
        due.sentence("NONE, and nothing comes, if there would be more than 1,400.");
        DanceCompany y = new DanceCompany();
        for (int i = 1; i <= 70; i++) {
            due.is("feed " + i, y.feed(0x20202020, 0x20202020, 0x20202020, 0x20202020, 0x20202020), 20 * i);
        }
        due.is("a 71st", y.feed(1, 1, 1, 1, 1), -1);
        due.is("nothing came", y.about(7), 1400);
        due.is("nothing came", y.works(), 0);
        for (int i = 1; i <= 70; i++) {
            y.feed(0x20202020, 0x20202020, 0x20202020, 0x20202020, 0x20202020);
        }
        due.is("end 1381", y.end(1381), 1381);
        due.is("there would be 1401", y.feed(1, 1, 1, 1, 1), -1);
        due.is("nothing came", y.about(7), 1381);
        due.is("end 1380", y.end(1380), 1380);
        due.is("there are 1400", y.feed(0x20202020, 0x20202020, 0x20202020, 0x20202020, 0x20202020), 1400);
    }

    private static void end() {
        due.sentence("The TAPE has its first n bytes: n; NONE, doing nothing, if it has not so many, or n is below 0.");
        DanceCompany x = new DanceCompany();
        due.is("0 of 0", x.end(0), 0);
        due.is("1 of 0", x.end(1), -1);
        due.is("work a;work b;work c;", x.feed(0x776f726b, 0x20613b77, 0x6f726b20, 0x623b776f, 0x726b2063), 20);
        for (int wrong : new int[] {21, -1, MIN, MAX, 1400, 1401}) {
            due.is("end " + wrong, x.end(wrong), -1);
            due.is("as it was", x.about(7), 20);
        }
        due.is("all of it", x.end(20), 20);
        due.is("its first 14", x.end(14), 14);
        due.is("not so many now", x.end(15), -1);
        due.is("as it was", x.about(7), 14);
        due.is("works", x.works(), 2);
        due.is("not so many now", x.end(1), -1);
    }

    private static void worksReplace() {
        due.sentence("The TAPE (empty then) is the WORKS (FACTS and REHEARSALS are none then): how many lines");
        DanceCompany x = Due.company("floor 3 4 hard 5;work a;part b at 0 0 n;note c at 0 0 a;", 2);
        for (int i = 0; i < 4; i++) {
            x.knows(0, 0, 0);
        }
        x.film(1, 1, 0);
        x.rehearse(0, 0);
        x.reads(1, 0, 5);
        x.later(7);
        x.rooms(1);
        Due.rules(x, "cost 3;", 0);
        due.is("lines", Due.works(x, "work d; note f at 1 2 ab; part g at 1 2 n;"), 3);
        int[] then = {1, 2, 2, 0, 1, 0, 7, 0, 10, 10, 0};
        for (int what = 0; what < then.length; what++) {
            due.is("about " + what, x.about(what), then[what]);
        }
        due.is("no film", x.borne(0, 0, 7), 0);
        due.is("nobody knows", x.can(0, 0, 0, 7), 0);
        due.is("no fact", x.untell(0), false);
        due.is("no rehearsal", x.hour(0, 7), -1);
        due.is("no hours", x.week(7), 0);
        due.is("readings stay", x.step(0, 1, 1), 5);
        due.is("facts are numbered anew", x.knows(0, 1, 0), 0);
        due.is("those behind it are none", x.untell(1), false);
        due.is("told at the time that it is", x.can(0, 1, 0, 6), 0);
        due.is("rehearsals are numbered anew", x.rehearse(0, 0), 0);
        x.rehearse(0, 0);
        due.is("rooms stay", x.week(7), 2);
        due.is("a work without lines of parts", Due.works(x, "work a;"), 1);
        due.is("rules stay", x.cost(0, 0, 7), 0);
        due.is("no lines", Due.works(x, ""), 0);
        due.is("no works", x.about(0), 0);
        due.is("no parts", x.about(1), 0);
        due.is("bodies stay", x.about(2), 2);
        due.is("rules stay", x.about(4), 1);
    }

    private static void worksThrice() {
        due.sentence("The TAPE is the WORKS: nothing of the works ahead of them is left");
        DanceCompany x = new DanceCompany();
        String full = "floor 1 2 hard 3;" + workOf("a", "note", 8, "at 9 9 abcdefgh") + workOf("b", "note", 4, "at 9 9 abcdefgh");
        due.is("full", Due.works(x, full), 15);
        due.is("full again", Due.works(x, full), 15);
        due.is("faulty", Due.works(x, full + "work c;work d;work b;"), -1);
        due.is("faulty in a number", Due.works(x, "floor 21"), -1);
        due.is("faulty in its end", Due.works(x, "floor 20"), -1);
        due.is("little", Due.works(x, "work b;part c at 1 2 n;work d;part e at 3 4 nn;"), 4);
        int[] want = {2, 2, 0, 0, 0, 0, 0, 0, 10, 10, 0};
        for (int what = 0; what < want.length; what++) {
            due.is("about " + what, x.about(what), want[what]);
        }
        int[][] parts = {{0, 1, 0, 1, 2}, {1, 2, 0, 3, 4}};
        for (int part = 0; part < 2; part++) {
            for (int what = 0; what < 5; what++) {
                due.is("part " + part + " " + what, x.part(part, what), parts[part][what]);
            }
        }
        due.is("no third", x.part(2, 0), -1);
        due.is("no meeting", x.meet(0, 0), -1);
        due.is("live", x.live(3, 0, 0), 2);
        due.is("live", x.live(2, 0, 0), 1);
        for (int i = 0; i < 3; i++) {
            due.is("full", Due.works(x, full), 15);
            due.is("none", Due.works(x, ""), 0);
            due.is("wide", x.about(8), 10);
            due.is("a work", Due.works(x, workOf("a", "part", 8, "at 0 0 n")), 9);
            due.is("hard", x.about(10), 0);
            due.is("deep", x.about(9), 10);
        }
    }

    private static void faultOfLatest() {
        due.sentence("Of the latest of both that was not -2 what 0: its FAULT (0), 1: its place (NONE). NONE for another what.");
        DanceCompany x = new DanceCompany();
        due.is("none yet", x.fault(0), 0);
        due.is("none yet", x.fault(1), -1);
        Due.rules(x, "cost 1;?", 1000);
        due.is("not -2", x.fault(0), 0);
        due.is("not -2", x.fault(1), -1);
        Due.works(x, "work a;work a;");
        for (int round = 0; round < 3; round++) {
            due.is("of works", x.fault(0), 3);
            due.is("of works", x.fault(1), 12);
            due.is("-2", Due.rules(x, round == 0 ? "?" : round == 1 ? "cost 1;" : " ".repeat(601), round == 2 ? 0 : -1), -2);
        }
        due.is("of works still", x.fault(0), 3);
        Due.rules(x, "cost ?;", 999);
        due.is("of rules", x.fault(0), 1);
        due.is("of rules", x.fault(1), 5);
        Due.works(x, "work");
        due.is("of works", x.fault(0), 2);
        due.is("of works", x.fault(1), 4);
        Due.rules(x, "", 0);
        due.is("no fault", x.fault(0), 0);
        due.is("no place", x.fault(1), -1);
        Due.rules(x, "1", 0);
        due.is("of rules", x.fault(0), 2);
        due.is("at its first byte", x.fault(1), 0);
        Due.works(x, "work a;");
        due.is("no fault", x.fault(0), 0);
        due.is("no place", x.fault(1), -1);
        for (int wrong : new int[] {2, -1, MIN, MAX}) {
            due.is("what " + wrong, x.fault(wrong), -1);
        }
    }
}
