import java.nio.charset.StandardCharsets;
import java.util.Arrays;

/** Counts the answers that are not the due ones, and puts texts on the tape. */
final class Due {
    private final String name;
    private int wrong = 0;
    private int asked = 0;
    private String sentence = "";

    Due(String name) {
        this.name = name;
    }

    /** The words of the document that the answers from here on bear out. */
    void sentence(String words) {
        sentence = " <<" + words + ">>";
    }

    void is(String call, long got, long want) {
        asked++;
        if (got != want) {
            wrong++;
            System.out.println(name + sentence + ": " + call + " answered " + got + ", due is " + want);
        }
    }

    void is(String call, boolean got, boolean want) {
        is(call, got ? 1 : 0, want ? 1 : 0);
    }

    /** Ends the program with exit code 1 if an answer was wrong. */
    void end() {
        System.out.println(name + ": " + asked + " answers, " + wrong + " wrong");
        if (wrong != 0) {
            System.exit(1);
        }
    }

    static void tape(DanceCompany x, String text) {
        tape(x, text.getBytes(StandardCharsets.ISO_8859_1));
    }

    /** Makes the tape hold just these bytes; whatever was on it is taken off. */
    static void tape(DanceCompany x, byte[] bytes) {
        x.end(0);
        byte[] padded = Arrays.copyOf(bytes, (bytes.length + 19) / 20 * 20);
        for (int i = 0; i < padded.length; i += 20) {
            x.feed(four(padded, i), four(padded, i + 4), four(padded, i + 8), four(padded, i + 12), four(padded, i + 16));
        }
        x.end(bytes.length);
    }

    static int four(byte[] b, int i) {
        return (b[i] & 255) << 24 | (b[i + 1] & 255) << 16 | (b[i + 2] & 255) << 8 | b[i + 3] & 255;
    }

    static int works(DanceCompany x, String text) {
        tape(x, text);
        return x.works();
    }

    static int rules(DanceCompany x, String text, int day) {
        tape(x, text);
        return x.rules(day);
    }

    static DanceCompany company(String works, int bodies) {
        DanceCompany x = new DanceCompany();
        works(x, works);
        for (int i = 0; i < bodies; i++) {
            x.body();
        }
        return x;
    }

    /** A faulty text of works on a new object: the fault and its place. */
    void worksFault(String text, int fault, int place) {
        DanceCompany x = new DanceCompany();
        is("works of <" + text + ">", works(x, text), -1);
        is("fault of <" + text + ">", x.fault(0), fault);
        is("place in <" + text + ">", x.fault(1), place);
    }

    void worksFine(String text, int lines) {
        DanceCompany x = new DanceCompany();
        is("works of <" + text + ">", works(x, text), lines);
        is("fault of <" + text + ">", x.fault(0), 0);
        is("place in <" + text + ">", x.fault(1), -1);
    }

    void rulesFault(String text, int fault, int place) {
        DanceCompany x = new DanceCompany();
        is("rules of <" + text + ">", rules(x, text, 0), -1);
        is("fault of <" + text + ">", x.fault(0), fault);
        is("place in <" + text + ">", x.fault(1), place);
        is("none come of <" + text + ">", x.about(4), 0);
    }

    void rulesFine(String text) {
        DanceCompany x = new DanceCompany();
        is("rules of <" + text + ">", rules(x, text, 0), 0);
        is("fault of <" + text + ">", x.fault(0), 0);
        is("place in <" + text + ">", x.fault(1), -1);
    }
}
