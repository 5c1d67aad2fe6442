import java.util.Arrays;

/**
 * A company of dancers: its works, its bodies and what is told of them, its rules, and what follows
 * from these. The document ../shared/DOC.md says what each call promises.
 */
public final class DanceCompany {
    public static final int NONE = -1;

    private static final long NO_COST = -1000000000000L;
    private static final int NOT_TAKEN = -2;
    private static final int MOST_RULE_BYTES = 600;
    private static final int MOST_RULES = 6;
    private static final int MOST_BODIES = 10;
    private static final int LAST_DAY = 999;
    private static final int LONGEST_LEAP = 1000;
    private static final int LAST_TIME = 100000;
    private static final int READERS = 2;
    private static final int SIGNS = 8;
    private static final int STEPS = 6;
    private static final int MOST_COUNTS = 32;
    private static final int WIDEST = 20;

    private final Tape tape;
    private final int[][] readings;
    private final ScoreReader scoreReader;
    private final RuleReader ruleReader;
    private final Ruling[] rulings;
    private final Ledger ledger;
    private final Standing standing;
    private final Casting casting;
    private final Timetable timetable;
    private Score score;
    private Score draft;
    private int rulingsTold;
    private int bodies;
    private int lastFault;
    private int lastPlace;

    public DanceCompany() {
        tape = new Tape();
        readings = new int[READERS][SIGNS];
        for (int sign = 0; sign < SIGNS; sign++) {
            int first = sign < STEPS ? sign : Score.STAY;
            readings[0][sign] = first;
            readings[1][sign] = first;
        }
        Tokens tokens = new Tokens(tape);
        scoreReader = new ScoreReader(tokens);
        ruleReader = new RuleReader(tokens);
        rulings = new Ruling[MOST_RULES];
        for (int i = 0; i < MOST_RULES; i++) {
            rulings[i] = new Ruling();
        }
        ledger = new Ledger();
        standing = new Standing();
        casting = new Casting();
        timetable = new Timetable();
        score = new Score(readings);
        draft = new Score(readings);
        rulingsTold = 0;
        bodies = 0;
        lastFault = 0;
        lastPlace = NONE;
    }

    // ---- texts ----

    public int feed(int a, int b, int c, int d, int e) {
        if (tape.length + 20 > Tape.MOST) {
            return NONE;
        }
        tape.put(a);
        tape.put(b);
        tape.put(c);
        tape.put(d);
        tape.put(e);
        return tape.length;
    }

    public int end(int n) {
        if (n < 0 || n > tape.length) {
            return NONE;
        }
        tape.length = n;
        return n;
    }

    public int works() {
        boolean fine = scoreReader.readInto(draft);
        lastFault = scoreReader.fault;
        lastPlace = scoreReader.faultPlace;
        if (!fine) {
            return NONE;
        }
        Score old = score;
        score = draft;
        draft = old;
        tape.length = 0;
        ledger.told = 0;
        timetable.many = 0;
        return score.lines;
    }

    public int rules(int day) {
        if (tape.length > MOST_RULE_BYTES || !isDay(day) || rulingsTold >= MOST_RULES) {
            return NOT_TAKEN;
        }
        boolean fine = ruleReader.readInto(rulings[rulingsTold]);
        lastFault = ruleReader.fault;
        lastPlace = ruleReader.faultPlace;
        tape.length = 0;
        if (!fine) {
            return NONE;
        }
        rulings[rulingsTold].firstDay = day;
        rulingsTold++;
        return rulingsTold - 1;
    }

    public int fault(int what) {
        switch (what) {
            case 0: return lastFault;
            case 1: return lastPlace;
            default: return NONE;
        }
    }

    // ---- works ----

    public int part(int part, int what) {
        if (!score.isPart(part)) {
            return NONE;
        }
        switch (what) {
            case 0: return score.workOf[part];
            case 1: return score.counts[part];
            case 2: return score.noted[part] ? 1 : 0;
            case 3: return score.startX[part];
            case 4: return score.startY[part];
            default: return NONE;
        }
    }

    public boolean reads(int reader, int sign, int step) {
        if (!isReader(reader) || sign < 0 || sign >= SIGNS || !isStep(step)) {
            return false;
        }
        readings[reader][sign] = step;
        return true;
    }

    public int step(int part, int count, int reader) {
        if (!score.isPart(part) || !isReader(reader)) {
            return NONE;
        }
        return score.stepAt(part, count, reader);
    }

    public int where(int part, int count, int reader) {
        if (!score.isPart(part) || !isReader(reader) || count < 0 || count > MOST_COUNTS) {
            return NONE;
        }
        return score.placeBehind(part, count, reader);
    }

    public int meet(int work, int reader) {
        if (!score.isWork(work) || !isReader(reader)) {
            return NONE;
        }
        return score.firstMeeting(work, reader);
    }

    public int breaks(int work, int reader, int wide, int deep) {
        if (!score.isWork(work) || !isReader(reader) || !isWidth(wide) || !isWidth(deep)) {
            return NONE;
        }
        return score.firstBreak(work, reader, wide, deep);
    }

    public int load(int part, int reader) {
        if (!score.isPart(part) || !isReader(reader)) {
            return NONE;
        }
        return score.loadOf(part, reader);
    }

    public int like(int a, int b, int reader) {
        if (!score.isPart(a) || !score.isPart(b) || !isReader(reader)) {
            return NONE;
        }
        return score.likeness(a, b, reader);
    }

    public int rival(int part) {
        if (!score.isNote(part)) {
            return NONE;
        }
        for (int count = 1; count <= score.counts[part]; count++) {
            if (score.stepAt(part, count, 0) != score.stepAt(part, count, 1)) {
                return count;
            }
        }
        return NONE;
    }

    // ---- bodies and facts ----

    public int body() {
        if (bodies >= MOST_BODIES) {
            return NONE;
        }
        bodies++;
        return bodies - 1;
    }

    public int knows(int body, int part, int day) {
        if (!isBody(body) || !score.isPart(part) || !isDay(day)) {
            return NONE;
        }
        return ledger.tell(Ledger.KNOWS, body, part, day, day);
    }

    public int danced(int body, int part, int day) {
        if (!isBody(body) || !score.isPart(part) || !isDay(day)) {
            return NONE;
        }
        return ledger.tell(Ledger.DANCED, body, part, day, day);
    }

    public int out(int body, int from, int to) {
        if (!isBody(body) || !isDay(from) || !isDay(to) || to < from) {
            return NONE;
        }
        return ledger.tell(Ledger.OUT, body, 0, from, to);
    }

    public int leaves(int body, int day) {
        if (!isBody(body) || !isDay(day)) {
            return NONE;
        }
        return ledger.tell(Ledger.LEAVES, body, 0, day, day);
    }

    public int film(int part, int count, int step) {
        if (!score.isNote(part) || count < 1 || count > score.counts[part] || !isStep(step)) {
            return NONE;
        }
        return ledger.tell(Ledger.FILM, 0, part, count, step);
    }

    public boolean untell(int fact) {
        return ledger.takeBack(fact);
    }

    public int later(int by) {
        if (by < 0 || by > LONGEST_LEAP || ledger.time + by > LAST_TIME) {
            return NONE;
        }
        ledger.time += by;
        return ledger.time;
    }

    public int borne(int part, int reader, int k) {
        if (!score.isNote(part) || !isReader(reader)) {
            return NONE;
        }
        int many = 0;
        for (int fact = 0; fact < ledger.told; fact++) {
            if (ledger.kind[fact] == Ledger.FILM && ledger.part[fact] == part && ledger.counts(fact, k)
                    && score.stepAt(part, ledger.from[fact], reader) == ledger.to[fact]) {
                many++;
            }
        }
        return many;
    }

    public int asked(int body, int part, int day, int what, int k) {
        if (!isBody(body) || !score.isPart(part) || !isDay(day)) {
            return NONE;
        }
        openDay(day, k);
        switch (what) {
            case 0: return standing.daysKnown(body, part);
            case 1: return standing.daysSinceDanced(body, part);
            case 2: return standing.burden[body];
            case 3: return standing.daysIdle(body);
            default: return NONE;
        }
    }

    // ---- casts ----

    public int can(int body, int part, int day, int k) {
        if (!isBody(body) || !score.isPart(part) || !isDay(day)) {
            return NONE;
        }
        openDay(day, k);
        return standing.isFit(body, part) ? 1 : 0;
    }

    public long cost(int work, int day, int k) {
        if (!score.isWork(work) || !isDay(day) || !findCast(work, day, k)) {
            return NO_COST;
        }
        return casting.total;
    }

    public int cast(int part, int day, int k) {
        if (!score.isPart(part) || !isDay(day) || !findCast(score.workOf[part], day, k)) {
            return NONE;
        }
        return casting.bodyOf(score.seatOf(part));
    }

    public int covers(int part, int day, int k) {
        if (!score.isPart(part) || !isDay(day)) {
            return NONE;
        }
        findCast(score.workOf[part], day, k);
        int seat = score.seatOf(part);
        int many = 0;
        for (int body = 0; body < bodies; body++) {
            if (casting.isWilling(seat, body) && (casting.inCast() & (1 << body)) == 0) {
                many++;
            }
        }
        return many;
    }

    public int fall(int work, int body, int day, int k) {
        if (!score.isWork(work) || !isBody(body) || !isDay(day) || !findFall(work, body, day, k)) {
            return NONE;
        }
        return casting.changed();
    }

    public int falls(int part, int body, int day, int k) {
        if (!score.isPart(part) || !isBody(body) || !isDay(day)
                || !findFall(score.workOf[part], body, day, k)) {
            return NONE;
        }
        return casting.bodyOf(score.seatOf(part));
    }

    public int learn(int body, int part, int day, int k) {
        if (!isBody(body) || !score.isPart(part) || !isDay(day)) {
            return NONE;
        }
        openDay(day, k);
        if (standing.isKnown(body, part)) {
            return 0;
        }
        return standing.hasTeacher(body, part) ? standing.hoursToLearn(body, part) : NONE;
    }

    // ---- rehearsals ----

    public int rehearse(int work, int day) {
        if (!score.isWork(work) || !isDay(day)) {
            return NONE;
        }
        return timetable.add(work, day);
    }

    public boolean rooms(int many) {
        if (many < 1 || many > Timetable.MOST_ROOMS) {
            return false;
        }
        timetable.roomsOpen = many;
        return true;
    }

    public int week(int k) {
        for (int i = 0; i < timetable.many; i++) {
            boolean found = findCast(timetable.work[i], timetable.day[i], k);
            timetable.crew[i] = found ? casting.inCast() : 0;
        }
        return timetable.plan();
    }

    public int hour(int rehearsal, int k) {
        if (rehearsal < 0 || rehearsal >= timetable.many) {
            return NONE;
        }
        week(k);
        return timetable.hourOf[rehearsal];
    }

    // ---- what lives ----

    public int live(int parts, int day, int k) {
        if (!isDay(day) || parts < 0 || parts >= 1 << score.parts) {
            return NONE;
        }
        openDay(day, k);
        return standing.living(parts);
    }

    public int note(int many, int day, int k) {
        if (!isDay(day) || many < 0 || many > Score.MOST_PARTS) {
            return NONE;
        }
        openDay(day, k);
        return standing.firstNoted(many);
    }

    public int about(int what) {
        switch (what) {
            case 0: return score.works;
            case 1: return score.parts;
            case 2: return bodies;
            case 3: return ledger.told;
            case 4: return rulingsTold;
            case 5: return timetable.many;
            case 6: return ledger.time;
            case 7: return tape.length;
            case 8: return score.wide;
            case 9: return score.deep;
            case 10: return score.hard;
            default: return NONE;
        }
    }

    // ---- helpers of the face ----

    private static boolean isDay(int day) {
        return day >= 0 && day <= LAST_DAY;
    }

    private static boolean isReader(int reader) {
        return reader >= 0 && reader < READERS;
    }

    private static boolean isStep(int step) {
        return step >= 0 && step < STEPS;
    }

    private static boolean isWidth(int width) {
        return width >= 1 && width <= WIDEST;
    }

    private boolean isBody(int body) {
        return body >= 0 && body < bodies;
    }

    private Ruling rulingInForce(int day) {
        Ruling inForce = null;
        for (int i = 0; i < rulingsTold; i++) {
            Ruling ruling = rulings[i];
            if (ruling.firstDay <= day && (inForce == null || ruling.firstDay >= inForce.firstDay)) {
                inForce = ruling;
            }
        }
        return inForce;
    }

    private void openDay(int day, int k) {
        standing.open(score, rulingInForce(day), bodies, day);
        standing.gather(ledger, k);
    }

    private boolean findCast(int work, int day, int k) {
        openDay(day, k);
        casting.weigh(standing, work);
        return casting.choose();
    }

    private boolean findFall(int work, int body, int day, int k) {
        return findCast(work, day, k) && casting.chooseWithout(body);
    }

    /** The bytes that were fed and not yet read. */
    private static final class Tape {
        static final int MOST = 1400;
        final byte[] bytes = new byte[MOST];
        int length = 0;

        void put(int four) {
            for (int shift = 24; shift >= 0 && length < MOST; shift -= 8) {
                bytes[length] = (byte) (four >> shift);
                length++;
            }
        }

        int at(int place) {
            return place >= 0 && place < length ? bytes[place] : NONE;
        }
    }

    /** Goes over the tape token by token; a sign's kind is its own byte. */
    private static final class Tokens {
        static final int END = 0;
        static final int BAD = 1;
        static final int NUMBER = 2;
        static final int NAME = 3;
        static final int FLOOR = 4;
        static final int HARD = 5;
        static final int WORK = 6;
        static final int PART = 7;
        static final int NOTE = 8;
        static final int AT = 9;
        static final int MAY = 10;
        static final int COST = 11;
        static final int TEACH = 12;
        static final int WHEN = 13;
        static final int AND = 14;
        static final int OR = 15;
        static final int NOT = 16;
        static final int BODY = 17;
        static final int KNOWN = 18;
        static final int LAST = 19;
        static final int LOAD = 20;
        static final int IDLE = 21;
        static final int HEAVY = 22;
        static final int DAY = 23;
        static final int COUNTS = 24;

        private static final int KEYWORDS = 21;
        // In the order of the kinds from FLOOR to COUNTS.
        private static final String KEYWORD_TEXT =
                "floor hard work part note at may cost teach when and or not body known last load idle heavy day counts";
        private static final String SIGN_TEXT = ";()<>=+-*";
        private static final int LONGEST_WORD = 8;
        private static final int LONGEST_NUMBER = 4;

        private final Tape tape;
        private final long[] keywords;
        private int next;
        int kind;
        int place;
        int length;
        int number;
        long key;

        Tokens(Tape tape) {
            this.tape = tape;
            keywords = new long[KEYWORDS];
            int filled = 0;
            for (int i = 0; i < KEYWORD_TEXT.length(); i++) {
                char c = KEYWORD_TEXT.charAt(i);
                if (c == ' ') {
                    filled++;
                } else if (filled < KEYWORDS) {
                    keywords[filled] = withLetter(keywords[filled], c);
                }
            }
        }

        void start() {
            next = 0;
            kind = END;
            advance();
        }

        void advance() {
            boolean behindNumber = kind == NUMBER;
            int from = next;
            skipBlanks();
            place = next;
            int c = tape.at(place);
            if (place >= tape.length) {
                kind = END;
            } else if (isLetter(c) && !(behindNumber && place == from)) {
                takeWord();
            } else if (isDigit(c)) {
                takeNumber();
            } else if (c > 0 && SIGN_TEXT.indexOf((char) c) >= 0) {
                kind = c;
                next++;
            } else {
                kind = BAD;
            }
        }

        int letter(int i) {
            return tape.at(place + i);
        }

        private void skipBlanks() {
            while (next < tape.length && (tape.at(next) == ' ' || tape.at(next) == '\n')) {
                next++;
            }
        }

        private void takeWord() {
            key = 0;
            length = 0;
            while (length < LONGEST_WORD && isLetter(tape.at(next))) {
                key = withLetter(key, tape.at(next));
                length++;
                next++;
            }
            kind = NAME;
            for (int i = 0; i < KEYWORDS; i++) {
                if (keywords[i] == key) {
                    kind = FLOOR + i;
                }
            }
        }

        private void takeNumber() {
            kind = NUMBER;
            number = 0;
            for (int digits = 0; digits < LONGEST_NUMBER && isDigit(tape.at(next)); digits++) {
                number = number * 10 + tape.at(next) - '0';
                next++;
            }
        }

        private static boolean isLetter(int c) {
            return c >= 'a' && c <= 'z';
        }

        private static boolean isDigit(int c) {
            return c >= '0' && c <= '9';
        }

        // Eight letters of five bits each are a whole word in one number.
        private static long withLetter(long key, int letter) {
            return (key << 5) | (letter - 'a' + 1);
        }
    }

    /** The works as told by a text. */
    private static final class Score {
        static final int MOST_WORKS = 4;
        static final int MOST_PARTS = 12;
        static final int MOST_OF_WORK = 8;
        static final int STAY = 4;
        static final int LEAP = 5;
        private static final int USUAL_WIDTH = 10;
        private static final int LEAP_LOAD = 3;
        private static final int[] MOVE_X = {0, 1, 0, -1, 0, 0};
        private static final int[] MOVE_Y = {-1, 0, 1, 0, 0, 0};

        private final int[][] readings;
        private final int[] atX = new int[MOST_OF_WORK];
        private final int[] atY = new int[MOST_OF_WORK];
        final int[][] marks = new int[MOST_PARTS][MOST_COUNTS];
        final int[] workOf = new int[MOST_PARTS];
        final int[] counts = new int[MOST_PARTS];
        final int[] startX = new int[MOST_PARTS];
        final int[] startY = new int[MOST_PARTS];
        final boolean[] noted = new boolean[MOST_PARTS];
        final int[] firstPart = new int[MOST_WORKS];
        final int[] partsOf = new int[MOST_WORKS];
        int works;
        int parts;
        int lines;
        int wide;
        int deep;
        int hard;

        Score(int[][] readings) {
            this.readings = readings;
            wide = USUAL_WIDTH;
            deep = USUAL_WIDTH;
        }

        void clear() {
            works = 0;
            parts = 0;
            lines = 0;
            wide = USUAL_WIDTH;
            deep = USUAL_WIDTH;
            hard = 0;
        }

        boolean isWork(int work) {
            return work >= 0 && work < works;
        }

        boolean isPart(int part) {
            return part >= 0 && part < parts;
        }

        boolean isNote(int part) {
            return isPart(part) && noted[part];
        }

        int seatOf(int part) {
            return part - firstPart[workOf[part]];
        }

        int stepAt(int part, int count, int reader) {
            if (count < 1 || count > counts[part]) {
                return NONE;
            }
            int mark = marks[part][count - 1];
            return noted[part] ? readings[reader][mark] : mark;
        }

        int placeBehind(int part, int count, int reader) {
            int x = startX[part];
            int y = startY[part];
            for (int c = 1; c <= count && c <= counts[part]; c++) {
                int step = stepAt(part, c, reader);
                x += MOVE_X[step];
                y += MOVE_Y[step];
            }
            return 1000 * (x + 100) + y + 100;
        }

        int loadOf(int part, int reader) {
            int sum = counts[part] * hard / 4;
            for (int count = 1; count <= counts[part]; count++) {
                int step = stepAt(part, count, reader);
                if (step == LEAP) {
                    sum += LEAP_LOAD;
                } else if (step != STAY) {
                    sum++;
                }
            }
            return sum;
        }

        int likeness(int a, int b, int reader) {
            int same = 0;
            for (int count = 1; count <= counts[a] && count <= counts[b]; count++) {
                if (stepAt(a, count, reader) == stepAt(b, count, reader)) {
                    same++;
                }
            }
            return same;
        }

        int firstMeeting(int work, int reader) {
            for (int count = 0; count <= MOST_COUNTS; count++) {
                walk(work, count, reader);
                if (twoTogether(partsOf[work])) {
                    return count;
                }
            }
            return NONE;
        }

        int firstBreak(int work, int reader, int width, int depth) {
            for (int count = 0; count <= MOST_COUNTS; count++) {
                walk(work, count, reader);
                if (oneOutside(partsOf[work], width, depth)) {
                    return count;
                }
            }
            return NONE;
        }

        // Called for count 0, 1, 2 and so on in turn, so that each call goes one step further.
        private void walk(int work, int count, int reader) {
            for (int seat = 0; seat < partsOf[work]; seat++) {
                int part = firstPart[work] + seat;
                if (count == 0) {
                    atX[seat] = startX[part];
                    atY[seat] = startY[part];
                } else if (count <= counts[part]) {
                    int step = stepAt(part, count, reader);
                    atX[seat] += MOVE_X[step];
                    atY[seat] += MOVE_Y[step];
                }
            }
        }

        private boolean twoTogether(int seats) {
            for (int a = 0; a < seats; a++) {
                for (int b = a + 1; b < seats; b++) {
                    if (atX[a] == atX[b] && atY[a] == atY[b]) {
                        return true;
                    }
                }
            }
            return false;
        }

        private boolean oneOutside(int seats, int width, int depth) {
            for (int seat = 0; seat < seats; seat++) {
                if (atX[seat] < 0 || atX[seat] >= width || atY[seat] < 0 || atY[seat] >= depth) {
                    return true;
                }
            }
            return false;
        }
    }

    /** Reads the tape as works; every check comes before the next token is looked at. */
    private static final class ScoreReader {
        private static final int MISPLACED = 2;
        private static final int TOLD_ALREADY = 3;
        private static final int BAD_NUMBER = 4;
        private static final int BAD_WORD = 5;
        private static final int LAST_PLACE = 19;
        private static final int HARDEST = 9;
        private static final String STEP_LETTERS = "neswox";
        private static final String SIGN_LETTERS = "abcdefgh";

        private final Tokens tokens;
        private final long[] names = new long[Score.MOST_WORKS + Score.MOST_PARTS];
        private int named;
        private boolean floorTold;
        private Score score;
        int fault;
        int faultPlace;

        ScoreReader(Tokens tokens) {
            this.tokens = tokens;
        }

        boolean readInto(Score target) {
            score = target;
            score.clear();
            named = 0;
            floorTold = false;
            fault = 0;
            faultPlace = NONE;
            tokens.start();
            // A line takes a byte at least, so the text's bytes bound the lines.
            for (int i = 0; i <= Tape.MOST && tokens.kind != Tokens.END; i++) {
                if (!takeLine()) {
                    return false;
                }
                score.lines++;
            }
            return true;
        }

        private boolean takeLine() {
            switch (tokens.kind) {
                case Tokens.FLOOR: return takeFloor();
                case Tokens.WORK: return takeWork();
                case Tokens.PART: return takePart(false);
                case Tokens.NOTE: return takePart(true);
                default: return refuse(MISPLACED);
            }
        }

        private boolean takeFloor() {
            if (floorTold) {
                return refuse(MISPLACED);
            }
            floorTold = true;
            tokens.advance();
            if (!isNumber(1, WIDEST)) {
                return false;
            }
            score.wide = takeNumber();
            if (!isNumber(1, WIDEST)) {
                return false;
            }
            score.deep = takeNumber();
            if (!take(Tokens.HARD) || !isNumber(0, HARDEST)) {
                return false;
            }
            score.hard = takeNumber();
            return take(';');
        }

        private boolean takeWork() {
            if (score.works >= Score.MOST_WORKS) {
                return refuse(MISPLACED);
            }
            tokens.advance();
            if (!takeName()) {
                return false;
            }
            score.firstPart[score.works] = score.parts;
            score.partsOf[score.works] = 0;
            score.works++;
            return take(';');
        }

        private boolean takePart(boolean noted) {
            int work = score.works - 1;
            if (work < 0 || score.parts >= Score.MOST_PARTS
                    || score.partsOf[work] >= Score.MOST_OF_WORK) {
                return refuse(MISPLACED);
            }
            tokens.advance();
            if (!takeName() || !take(Tokens.AT)) {
                return false;
            }
            int part = score.parts;
            score.workOf[part] = work;
            score.noted[part] = noted;
            score.counts[part] = 0;
            if (!isNumber(0, LAST_PLACE)) {
                return false;
            }
            score.startX[part] = takeNumber();
            if (!isNumber(0, LAST_PLACE)) {
                return false;
            }
            score.startY[part] = takeNumber();
            if (!takeWords(part)) {
                return false;
            }
            score.parts++;
            score.partsOf[work]++;
            return take(';');
        }

        private boolean takeWords(int part) {
            if (tokens.kind != Tokens.NAME) {
                return refuse(MISPLACED);
            }
            for (int i = 0; i <= MOST_COUNTS && tokens.kind == Tokens.NAME; i++) {
                if (!takeSteps(part)) {
                    return refuse(BAD_WORD);
                }
                tokens.advance();
            }
            return true;
        }

        private boolean takeSteps(int part) {
            String letters = score.noted[part] ? SIGN_LETTERS : STEP_LETTERS;
            for (int i = 0; i < tokens.length; i++) {
                int mark = letters.indexOf((char) tokens.letter(i));
                int count = score.counts[part];
                if (mark < 0 || count >= MOST_COUNTS) {
                    return false;
                }
                score.marks[part][count] = mark;
                score.counts[part]++;
            }
            return true;
        }

        private boolean takeName() {
            if (tokens.kind != Tokens.NAME || named >= names.length) {
                return refuse(MISPLACED);
            }
            for (int i = 0; i < named; i++) {
                if (names[i] == tokens.key) {
                    return refuse(TOLD_ALREADY);
                }
            }
            names[named] = tokens.key;
            named++;
            tokens.advance();
            return true;
        }

        private boolean isNumber(int least, int most) {
            if (tokens.kind != Tokens.NUMBER) {
                return refuse(MISPLACED);
            }
            if (tokens.number < least || tokens.number > most) {
                return refuse(BAD_NUMBER);
            }
            return true;
        }

        private int takeNumber() {
            int number = tokens.number;
            tokens.advance();
            return number;
        }

        private boolean take(int kind) {
            if (tokens.kind != kind) {
                return refuse(MISPLACED);
            }
            tokens.advance();
            return true;
        }

        private boolean refuse(int why) {
            fault = tokens.kind == Tokens.BAD ? 1 : why;
            faultPlace = tokens.place;
            return false;
        }
    }

    /** One text of rules; each line is kept with its operators behind what they join. */
    private static final class Ruling {
        static final int MAY = 0;
        static final int TEACH = 1;
        static final int COST = 2;
        static final int LINES = 3;
        // Codes below VARIABLE are numbers of the text, those from OPERATOR on are token kinds.
        static final int VARIABLE = 10000;
        static final int OPERATOR = 20000;
        static final int MOST_UNITS = 60;

        // Sixty units, what joins them, and as many nots as 600 bytes can hold.
        private static final int MOST_CODES = 320;

        private final int[] codes = new int[MOST_CODES];
        private final int[] starts = new int[LINES];
        private final int[] stops = new int[LINES];
        private int length;
        int firstDay;

        void clear() {
            length = 0;
            Arrays.fill(starts, NONE);
            Arrays.fill(stops, NONE);
        }

        boolean tells(int line) {
            return starts[line] != NONE;
        }

        void open(int line) {
            starts[line] = length;
        }

        void close(int line) {
            stops[line] = length;
        }

        void add(int code) {
            if (length < codes.length) {
                codes[length] = code;
                length++;
            }
        }

        int value(int line, int[] variables, int[] stack) {
            int top = 0;
            for (int i = starts[line]; i >= 0 && i < stops[line]; i++) {
                int code = codes[i];
                if (code < OPERATOR) {
                    if (top < stack.length) {
                        stack[top] = code < VARIABLE ? code : variables[code - VARIABLE];
                        top++;
                    }
                } else if (code == OPERATOR + Tokens.NOT) {
                    if (top >= 1) {
                        stack[top - 1] = stack[top - 1] == 0 ? 1 : 0;
                    }
                } else if (top >= 2) {
                    stack[top - 2] = joined(code - OPERATOR, stack[top - 2], stack[top - 1]);
                    top--;
                }
            }
            return top > 0 ? stack[top - 1] : 0;
        }

        private static int joined(int operator, int a, int b) {
            switch (operator) {
                case '*': return a * b;
                case '+': return a + b;
                case '-': return a - b;
                case '<': return a < b ? 1 : 0;
                case '>': return a > b ? 1 : 0;
                case '=': return a == b ? 1 : 0;
                case Tokens.AND: return a != 0 && b != 0 ? 1 : 0;
                case Tokens.OR: return a != 0 || b != 0 ? 1 : 0;
                default: return 0;
            }
        }
    }

    /** Reads the tape as rules, with the operators that wait for their right side on a stack. */
    private static final class RuleReader {
        private static final int DEEPEST = 7;
        // Between two brackets or nots no more than or, and, a relation, a sum and a product wait.
        private static final int MOST_WAITING = (DEEPEST + 1) * 6;
        private static final int ONE_DUE = 0;
        private static final int UNIT_DUE = 1;
        private static final int OPERATOR_DUE = 2;
        private static final int LINE_ENDS = 3;
        private static final int REFUSED = 4;
        private static final int RANK_OR = 1;
        private static final int RANK_AND = 2;
        private static final int RANK_NOT = 3;
        private static final int RANK_RELATION = 4;
        private static final int RANK_SUM = 5;
        private static final int RANK_PRODUCT = 6;

        private final Tokens tokens;
        private final int[] waiting = new int[MOST_WAITING];
        private int top;
        private int depth;
        private int units;
        private Ruling ruling;
        int fault;
        int faultPlace;

        RuleReader(Tokens tokens) {
            this.tokens = tokens;
        }

        boolean readInto(Ruling target) {
            ruling = target;
            ruling.clear();
            units = 0;
            fault = 0;
            faultPlace = NONE;
            tokens.start();
            // Each line stands once, so one line more than there are is refused.
            for (int i = 0; i <= Ruling.LINES && tokens.kind != Tokens.END; i++) {
                if (!takeLine()) {
                    return false;
                }
            }
            return true;
        }

        private boolean takeLine() {
            int line = lineOf(tokens.kind);
            if (line == NONE || ruling.tells(line)) {
                return refuse();
            }
            tokens.advance();
            if (line != Ruling.COST) {
                if (tokens.kind != Tokens.WHEN) {
                    return refuse();
                }
                tokens.advance();
            }
            ruling.open(line);
            if (!takeExpression()) {
                return refuse();
            }
            ruling.close(line);
            tokens.advance();
            return true;
        }

        private static int lineOf(int kind) {
            switch (kind) {
                case Tokens.MAY: return Ruling.MAY;
                case Tokens.TEACH: return Ruling.TEACH;
                case Tokens.COST: return Ruling.COST;
                default: return NONE;
            }
        }

        // Leaves the tokens at the line's sign ; or at the token that is refused.
        private boolean takeExpression() {
            top = 0;
            depth = 0;
            int due = ONE_DUE;
            for (int i = 0; i <= Tape.MOST; i++) {
                due = due == OPERATOR_DUE ? afterUnit(tokens.kind) : beforeUnit(tokens.kind, due);
                if (due == LINE_ENDS || due == REFUSED) {
                    return due == LINE_ENDS;
                }
                tokens.advance();
            }
            return false;
        }

        private int beforeUnit(int kind, int due) {
            if (kind == Tokens.NOT) {
                return due == ONE_DUE && enter(kind) ? ONE_DUE : REFUSED;
            }
            int code = codeOf(kind);
            if (kind != '(' && code == NONE || units >= Ruling.MOST_UNITS) {
                return REFUSED;
            }
            units++;
            if (kind == '(') {
                return enter(kind) ? ONE_DUE : REFUSED;
            }
            ruling.add(code);
            return OPERATOR_DUE;
        }

        private int codeOf(int kind) {
            if (kind == Tokens.NUMBER) {
                return tokens.number;
            }
            int variable = Standing.variableOf(kind);
            return variable == NONE ? NONE : Ruling.VARIABLE + variable;
        }

        private int afterUnit(int kind) {
            if (kind == ';') {
                release(RANK_OR);
                return top == 0 ? LINE_ENDS : REFUSED;
            }
            if (kind == ')') {
                release(RANK_OR);
                return leaveBracket() ? OPERATOR_DUE : REFUSED;
            }
            int rank = rankOf(kind);
            if (rank == NONE || rank == RANK_NOT) {
                return REFUSED;
            }
            // Two relations don't stand in one row, so the earlier must not be released for the later.
            release(rank == RANK_RELATION ? RANK_SUM : rank);
            if (rank == RANK_RELATION && top > 0 && rankOf(waiting[top - 1]) == RANK_RELATION) {
                return REFUSED;
            }
            return push(kind) ? (rank <= RANK_AND ? ONE_DUE : UNIT_DUE) : REFUSED;
        }

        private boolean enter(int kind) {
            if (depth >= DEEPEST || !push(kind)) {
                return false;
            }
            depth++;
            return true;
        }

        private boolean leaveBracket() {
            if (top == 0) {
                return false;
            }
            top--;
            depth--;
            return true;
        }

        private boolean push(int kind) {
            if (top >= waiting.length) {
                return false;
            }
            waiting[top] = kind;
            top++;
            return true;
        }

        private void release(int rank) {
            while (top > 0 && rankOf(waiting[top - 1]) >= rank) {
                top--;
                if (waiting[top] == Tokens.NOT) {
                    depth--;
                }
                ruling.add(Ruling.OPERATOR + waiting[top]);
            }
        }

        // An open bracket has no rank and so holds back all that waits behind it.
        private static int rankOf(int kind) {
            switch (kind) {
                case Tokens.OR: return RANK_OR;
                case Tokens.AND: return RANK_AND;
                case Tokens.NOT: return RANK_NOT;
                case '<':
                case '>':
                case '=': return RANK_RELATION;
                case '+':
                case '-': return RANK_SUM;
                case '*': return RANK_PRODUCT;
                default: return NONE;
            }
        }

        private boolean refuse() {
            fault = tokens.kind == Tokens.BAD ? 1 : 2;
            faultPlace = tokens.place;
            return false;
        }
    }

    /** The facts, in the order in which they were told. */
    private static final class Ledger {
        static final int KNOWS = 0;
        static final int DANCED = 1;
        static final int OUT = 2;
        static final int LEAVES = 3;
        static final int FILM = 4;
        private static final int MOST = 200;

        final int[] kind = new int[MOST];
        final int[] body = new int[MOST];
        final int[] part = new int[MOST];
        // Of a film these two are the count and the step; else days.
        final int[] from = new int[MOST];
        final int[] to = new int[MOST];
        private final int[] toldAt = new int[MOST];
        private final int[] untoldAt = new int[MOST];
        int told;
        int time;

        int tell(int what, int who, int which, int first, int second) {
            if (told >= MOST) {
                return NONE;
            }
            kind[told] = what;
            body[told] = who;
            part[told] = which;
            from[told] = first;
            to[told] = second;
            toldAt[told] = time;
            untoldAt[told] = NONE;
            told++;
            return told - 1;
        }

        boolean takeBack(int fact) {
            if (fact < 0 || fact >= told || untoldAt[fact] != NONE) {
                return false;
            }
            untoldAt[fact] = time;
            return true;
        }

        boolean counts(int fact, int k) {
            return toldAt[fact] <= k && (untoldAt[fact] == NONE || untoldAt[fact] > k);
        }
    }

    /** How bodies and parts stand on one day, as known at one time. */
    private static final class Standing {
        private static final int NEVER = 999;
        private static final int LOAD_DAYS = 7;
        private static final int VARIABLES = 10;

        private final int[][] knownFrom = new int[MOST_BODIES][Score.MOST_PARTS];
        private final int[][] lastDanced = new int[MOST_BODIES][Score.MOST_PARTS];
        private final int[] lastDay = new int[MOST_BODIES];
        private final boolean[] away = new boolean[MOST_BODIES];
        private final boolean[] gone = new boolean[MOST_BODIES];
        private final int[] loads = new int[Score.MOST_PARTS];
        private final int[] variables = new int[VARIABLES];
        private final int[] stack = new int[Ruling.MOST_UNITS];
        final int[] burden = new int[MOST_BODIES];
        Score score;
        private Ruling ruling;
        int bodies;
        private int day;

        static int variableOf(int kind) {
            switch (kind) {
                case Tokens.BODY: return 0;
                case Tokens.PART: return 1;
                case Tokens.KNOWN: return 2;
                case Tokens.LAST: return 3;
                case Tokens.LOAD: return 4;
                case Tokens.IDLE: return 5;
                case Tokens.HEAVY: return 6;
                case Tokens.HARD: return 7;
                case Tokens.DAY: return 8;
                case Tokens.COUNTS: return 9;
                default: return NONE;
            }
        }

        void open(Score onStage, Ruling inForce, int howMany, int onDay) {
            score = onStage;
            ruling = inForce;
            bodies = howMany;
            day = onDay;
            for (int body = 0; body < bodies; body++) {
                Arrays.fill(knownFrom[body], NONE);
                Arrays.fill(lastDanced[body], NONE);
                lastDay[body] = NONE;
                burden[body] = 0;
                away[body] = false;
                gone[body] = false;
            }
            for (int part = 0; part < score.parts; part++) {
                loads[part] = score.loadOf(part, 0);
            }
        }

        void gather(Ledger ledger, int k) {
            for (int fact = 0; fact < ledger.told; fact++) {
                if (!ledger.counts(fact, k) || ledger.kind[fact] == Ledger.FILM || ledger.from[fact] > day) {
                    continue;
                }
                int body = ledger.body[fact];
                int from = ledger.from[fact];
                switch (ledger.kind[fact]) {
                    case Ledger.KNOWS: gatherKnown(body, ledger.part[fact], from); break;
                    case Ledger.DANCED: gatherDanced(body, ledger.part[fact], from); break;
                    case Ledger.OUT: away[body] |= day <= ledger.to[fact]; break;
                    case Ledger.LEAVES: gone[body] = true; break;
                    default: break;
                }
            }
        }

        private void gatherKnown(int body, int part, int from) {
            int sofar = knownFrom[body][part];
            knownFrom[body][part] = sofar == NONE ? from : Math.min(sofar, from);
        }

        private void gatherDanced(int body, int part, int on) {
            if (on >= day) {
                return;
            }
            lastDanced[body][part] = Math.max(lastDanced[body][part], on);
            lastDay[body] = Math.max(lastDay[body], on);
            if (on >= day - LOAD_DAYS) {
                burden[body] += loads[part];
            }
        }

        boolean isKnown(int body, int part) {
            return knownFrom[body][part] != NONE;
        }

        int daysKnown(int body, int part) {
            return daysSince(knownFrom[body][part]);
        }

        int daysSinceDanced(int body, int part) {
            return daysSince(lastDanced[body][part]);
        }

        int daysIdle(int body) {
            return daysSince(lastDay[body]);
        }

        // Days are 0 to 999, so that no two are more than NEVER apart.
        private int daysSince(int then) {
            return then == NONE ? NEVER : day - then;
        }

        boolean isFit(int body, int part) {
            return isReady(body, part) && valueOf(Ruling.MAY, body, part, 1) != 0;
        }

        private boolean isReady(int body, int part) {
            return isKnown(body, part) && !away[body] && !gone[body];
        }

        int price(int body, int part) {
            return valueOf(Ruling.COST, body, part, 0);
        }

        private int valueOf(int line, int body, int part, int untold) {
            if (ruling == null || !ruling.tells(line)) {
                return untold;
            }
            variables[0] = body;
            variables[1] = part;
            variables[2] = daysKnown(body, part);
            variables[3] = daysSinceDanced(body, part);
            variables[4] = burden[body];
            variables[5] = daysIdle(body);
            variables[6] = loads[part];
            variables[7] = score.hard;
            variables[8] = day;
            variables[9] = score.counts[part];
            return ruling.value(line, variables, stack);
        }

        boolean hasTeacher(int pupil, int part) {
            for (int body = 0; body < bodies; body++) {
                if (body != pupil && isReady(body, part) && valueOf(Ruling.TEACH, body, part, 1) != 0) {
                    return true;
                }
            }
            return false;
        }

        int hoursToLearn(int body, int part) {
            int greatest = 0;
            for (int other = 0; other < score.parts; other++) {
                if (isKnown(body, other)) {
                    greatest = Math.max(greatest, score.likeness(part, other, 0));
                }
            }
            return score.counts[part] - greatest;
        }

        int living(int noted) {
            int many = 0;
            for (int work = 0; work < score.works; work++) {
                if ((missing(work) & ~noted) == 0) {
                    many++;
                }
            }
            return many;
        }

        // The parts, as bits, without whose noting the work does not live.
        private int missing(int work) {
            int bits = 0;
            for (int seat = 0; seat < score.partsOf[work]; seat++) {
                int part = score.firstPart[work] + seat;
                if (!score.noted[part] && !isKept(part)) {
                    bits |= 1 << part;
                }
            }
            return bits;
        }

        private boolean isKept(int part) {
            for (int body = 0; body < bodies; body++) {
                if (isKnown(body, part) && !gone[body]) {
                    return true;
                }
            }
            return false;
        }

        // With the fewest parts just those are noted that some works lack: so works are chosen, not parts.
        // Later works have later parts, so of like ones the first chosen is the least number.
        int firstNoted(int many) {
            int best = 0;
            int bestLiving = living(0);
            for (int chosen = 1; chosen < 1 << score.works; chosen++) {
                int bits = missingOf(chosen);
                int living = living(bits);
                int fewer = Integer.bitCount(best) - Integer.bitCount(bits);
                if (Integer.bitCount(bits) <= many
                        && (living > bestLiving || living == bestLiving && fewer > 0)) {
                    best = bits;
                    bestLiving = living;
                }
            }
            return best;
        }

        private int missingOf(int chosen) {
            int bits = 0;
            for (int work = 0; work < score.works; work++) {
                if ((chosen & 1 << work) != 0) {
                    bits |= missing(work);
                }
            }
            return bits;
        }
    }

    /** Finds the cast of a work, and the one that changes it least. */
    private static final class Casting {
        private static final long CANNOT = Long.MAX_VALUE;
        // Above the cost of any eight bodies, so that one change less always outweighs it.
        private static final long CHANGE = 1L << 40;

        private final long[][] weights = new long[Score.MOST_OF_WORK][MOST_BODIES];
        // By the bodies taken, as bits: the least weight of all parts that are still open.
        private final long[] rest = new long[1 << MOST_BODIES];
        private final int[] chosen = new int[Score.MOST_OF_WORK];
        private final int[] before = new int[Score.MOST_OF_WORK];
        private int seats;
        private int bodies;
        private boolean found;
        long total;

        void weigh(Standing standing, int work) {
            seats = standing.score.partsOf[work];
            bodies = standing.bodies;
            for (int seat = 0; seat < seats; seat++) {
                int part = standing.score.firstPart[work] + seat;
                for (int body = 0; body < bodies; body++) {
                    boolean fit = standing.isFit(body, part);
                    weights[seat][body] = fit ? standing.price(body, part) : CANNOT;
                }
            }
        }

        boolean choose() {
            found = seats <= bodies && leastRest();
            if (found) {
                total = rest[0];
                pickFirst();
            }
            return found;
        }

        // Only behind choose(), whose cast is the one to be changed.
        boolean chooseWithout(int fallen) {
            for (int seat = 0; seat < seats; seat++) {
                before[seat] = chosen[seat];
                weights[seat][fallen] = CANNOT;
                for (int body = 0; body < bodies; body++) {
                    if (body != before[seat] && weights[seat][body] != CANNOT) {
                        weights[seat][body] += CHANGE;
                    }
                }
            }
            return choose();
        }

        boolean isWilling(int seat, int body) {
            return weights[seat][body] != CANNOT;
        }

        int bodyOf(int seat) {
            return chosen[seat];
        }

        int inCast() {
            int bits = 0;
            for (int seat = 0; found && seat < seats; seat++) {
                bits |= 1 << chosen[seat];
            }
            return bits;
        }

        int changed() {
            int many = 0;
            for (int seat = 0; seat < seats; seat++) {
                if (chosen[seat] != before[seat]) {
                    many++;
                }
            }
            return many;
        }

        private boolean leastRest() {
            for (int taken = (1 << bodies) - 1; taken >= 0; taken--) {
                int seat = Integer.bitCount(taken);
                if (seat < seats) {
                    rest[taken] = leastFrom(seat, taken);
                } else {
                    rest[taken] = 0;
                }
            }
            return rest[0] != CANNOT;
        }

        private long leastFrom(int seat, int taken) {
            long[] weight = weights[seat];
            long least = CANNOT;
            for (int body = 0; body < bodies; body++) {
                int with = taken | 1 << body;
                if (with != taken && weight[body] != CANNOT && rest[with] != CANNOT) {
                    least = Math.min(least, weight[body] + rest[with]);
                }
            }
            return least;
        }

        private void pickFirst() {
            int taken = 0;
            for (int seat = 0; seat < seats; seat++) {
                chosen[seat] = firstOfLeast(seat, taken);
                taken |= 1 << chosen[seat];
            }
        }

        private int firstOfLeast(int seat, int taken) {
            for (int body = 0; body < bodies; body++) {
                int with = taken | 1 << body;
                if (with != taken && isWilling(seat, body) && rest[with] != CANNOT
                        && weights[seat][body] + rest[with] == rest[taken]) {
                    return body;
                }
            }
            return 0;
        }
    }

    /** The rehearsals and the hours in which they are. */
    private static final class Timetable {
        static final int MOST_ROOMS = 5;
        private static final int MOST = 9;
        private static final int USUAL_ROOMS = 2;

        final int[] work = new int[MOST];
        final int[] day = new int[MOST];
        // The bodies of each rehearsal, as bits.
        final int[] crew = new int[MOST];
        final int[] hourOf = new int[MOST];
        private final int[] busy = new int[MOST];
        private final int[] roomsTaken = new int[MOST];
        int many;
        int roomsOpen = USUAL_ROOMS;

        int add(int which, int onDay) {
            if (many >= MOST) {
                return NONE;
            }
            work[many] = which;
            day[many] = onDay;
            many++;
            return many - 1;
        }

        int plan() {
            for (int hours = 1; hours < many; hours++) {
                if (fits(0, 0, hours)) {
                    return hours;
                }
            }
            fits(0, 0, many);
            return many;
        }

        // In the first plan a new hour is always the next one, so no hour behind it is tried.
        private boolean fits(int rehearsal, int used, int hours) {
            if (rehearsal >= many) {
                return true;
            }
            for (int hour = 0; hour <= used && hour < hours; hour++) {
                if (hour == used) {
                    busy[hour] = 0;
                    roomsTaken[hour] = 0;
                }
                if (roomsTaken[hour] >= roomsOpen || (busy[hour] & crew[rehearsal]) != 0) {
                    continue;
                }
                busy[hour] |= crew[rehearsal];
                roomsTaken[hour]++;
                hourOf[rehearsal] = hour;
                if (fits(rehearsal + 1, Math.max(used, hour + 1), hours)) {
                    return true;
                }
                busy[hour] &= ~crew[rehearsal];
                roomsTaken[hour]--;
            }
            return false;
        }
    }
}
