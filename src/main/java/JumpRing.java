/** A ring for courses of jumps; the document ../shared/DOC.md says what each call answers. */
public final class JumpRing {
    public static final int NONE = -1;
    public static final int RANGE = -2;
    public static final int FULL = -3;
    public static final int STATE = -4;

    private static final int COURSES = 2;
    private static final int RIDERS = 30;
    private static final int TEAMS = 7;

    private final Tape tape = new Tape();
    private final Course[] coursesTold = new Course[COURSES];
    private Laws lawsNow = new Laws();
    private int faultKind = 0;
    private int faultPlace = NONE;
    private final Riders riders = new Riders();
    private final Rides rides = new Rides();
    private final Standing standing = new Standing();
    private final TeamStanding teamStanding = new TeamStanding();

    public JumpRing() {
    }

    public int feed(int a, int b, int c, int d, int e) {
        if (!tape.hasRoom()) {
            return FULL;
        }
        tape.append(a);
        tape.append(b);
        tape.append(c);
        tape.append(d);
        tape.append(e);
        return tape.length;
    }

    public int end(int n) {
        if (n < 0 || n > tape.length) {
            return NONE;
        }
        tape.length = n;
        return n;
    }

    // ---- courses, laws

    public int course(int c) {
        if (c < 0 || c >= COURSES) {
            return RANGE;
        }
        if (rides.someBegun()) {
            return STATE;
        }
        Reader in = new Reader(tape);
        Course told = new Course();
        told.read(in);
        if (!settle(in)) {
            return NONE;
        }
        coursesTold[c] = told;
        return told.fences;
    }

    public int laws() {
        if (rides.someBegun()) {
            return STATE;
        }
        Reader in = new Reader(tape);
        Laws told = new Laws();
        int lines = told.read(in);
        if (!settle(in)) {
            return NONE;
        }
        lawsNow = told;
        return lines;
    }

    public int fault(int what) {
        switch (what) {
            case 0:
                return faultKind;
            case 1:
                return faultPlace;
            default:
                return NONE;
        }
    }

    public int law(int what) {
        return lawsNow.get(what);
    }

    public int about(int c, int what) {
        Course told = courseTold(c);
        if (told == null) {
            return NONE;
        }
        switch (what) {
            case 0:
                return told.fences;
            case 1:
                return told.obstacles;
            case 2:
                return told.way;
            case 3:
                return lawsNow.timeAllowed(told.way);
            default:
                return NONE;
        }
    }

    public int fence(int c, int f, int what) {
        Course told = courseTold(c);
        return told == null ? NONE : told.aboutFence(f, what);
    }

    public int legal(int c) {
        Course told = courseTold(c);
        return told == null ? RANGE : told.firstWrong(lawsNow);
    }

    // ---- riders

    public int enter(int r, boolean on) {
        if (r < 0 || r >= RIDERS) {
            return RANGE;
        }
        if (rides.of(r, 0) != null) {
            return STATE;
        }
        return riders.setEntered(r, on) ? 1 : 0;
    }

    public int team(int r, int t) {
        if (!riders.isEntered(r) || t < NONE || t >= TEAMS) {
            return RANGE;
        }
        return riders.moveTo(r, t);
    }

    public int orders() {
        return riders.howManyOrders();
    }

    public int lot(int number, int i) {
        return riders.drawn(number, i);
    }

    // ---- rides

    public int begin(int r, int k) {
        if (!riders.isEntered(r) || !Rides.mayBe(r, k)) {
            return RANGE;
        }
        Course over = courseTold(k);
        if (over == null || rides.of(r, k) != null) {
            return STATE;
        }
        if (k == 1 && !rides.counts(r, 0)) {
            return STATE;
        }
        rides.put(r, k, new Ride(over, lawsNow));
        return 1;
    }

    public int jump(int r, int k, int how) {
        if (!Rides.mayBe(r, k) || how < Ride.CLEAR || how > Ride.REFUSED_DOWN) {
            return RANGE;
        }
        Ride its = rides.of(r, k);
        if (its == null || !its.hasFenceDue()) {
            return STATE;
        }
        if (how == Ride.REFUSED_DOWN && its.hasWaterDue()) {
            return RANGE;
        }
        if (its.isFull()) {
            return FULL;
        }
        its.add(how);
        return its.fenceDue();
    }

    public int fall(int r, int k) {
        return addAnywhere(r, k, Ride.FALL);
    }

    public int retire(int r, int k) {
        int added = addAnywhere(r, k, Ride.RETIRED);
        return added == 0 ? 1 : added;
    }

    public int finish(int r, int k, int first, int second) {
        if (!Rides.mayBe(r, k) || !Ride.mayShow(first) || !Ride.mayShow(second)) {
            return RANGE;
        }
        if (first == NONE && second == NONE) {
            return RANGE;
        }
        Ride its = rides.of(r, k);
        if (its == null || !its.mayFinish()) {
            return STATE;
        }
        if (its.isFull()) {
            return FULL;
        }
        its.addFinish(lawsNow.watched(first, second));
        return its.time;
    }

    public int back(int r, int k) {
        if (!Rides.mayBe(r, k)) {
            return RANGE;
        }
        Ride its = rides.of(r, k);
        if (its == null || its.events == 0) {
            return STATE;
        }
        if (k == 0 && rides.of(r, 1) != null) {
            return STATE;
        }
        its.takeBack();
        return its.events;
    }

    public int ride(int r, int k, int what) {
        if (!Rides.mayBe(r, k)) {
            return NONE;
        }
        Ride its = rides.of(r, k);
        if (its == null) {
            return what == 0 ? 0 : NONE;
        }
        return its.tell(what);
    }

    // ---- places

    public int place(int r) {
        if (!riders.isEntered(r)) {
            return RANGE;
        }
        standing.take(rides, lawsNow);
        return standing.placeOf(r);
    }

    public int asked(int r) {
        if (!riders.isEntered(r)) {
            return RANGE;
        }
        standing.take(rides, lawsNow);
        return standing.isAsked(r) ? 1 : 0;
    }

    public int placed(int i) {
        standing.take(rides, lawsNow);
        return standing.riderAt(i);
    }

    public int teamed(int t, int what) {
        if (t < 0 || t >= TEAMS) {
            return NONE;
        }
        if (what == 0) {
            return riders.inTeam(t);
        }
        teamStanding.take(riders, rides, lawsNow);
        return teamStanding.tell(t, what);
    }

    public int shared(int k, int o, int what) {
        Course over = courseTold(k);
        if (over == null || o < 0 || o >= over.obstacles || what < 0 || what > 2) {
            return NONE;
        }
        return rides.jumpsOf(k, o, what);
    }

    public int count(int what) {
        switch (what) {
            case 0:
                return riders.howMany();
            case 1:
            case 2:
                return rides.begunOf(what - 1);
            case 3:
            case 4:
                return rides.countingOf(what - 3);
            case 5:
                standing.take(rides, lawsNow);
                return standing.howManyAsked();
            case 6:
                return tape.length;
            default:
                return NONE;
        }
    }

    /** Empties THE TAPE behind its reading and keeps the FAULT: whether there was none. */
    private boolean settle(Reader in) {
        tape.length = 0;
        faultKind = in.faultKind;
        faultPlace = in.faultPlace;
        return !in.hasFault();
    }

    /** An EVENT that may be at any FENCE: 1 if the RIDE goes on, 0 if it is OUT; else why not. */
    private int addAnywhere(int r, int k, int kind) {
        if (!Rides.mayBe(r, k)) {
            return RANGE;
        }
        Ride its = rides.of(r, k);
        if (its == null || !its.isOnItsWay()) {
            return STATE;
        }
        if (its.isFull()) {
            return FULL;
        }
        its.add(kind);
        return its.isOnItsWay() ? 1 : 0;
    }

    private Course courseTold(int c) {
        return c >= 0 && c < COURSES ? coursesTold[c] : null;
    }

    /** THE TAPE: bytes that wait to be read as a text. */
    private static final class Tape {
        static final int MOST = 2000;
        static final int FED_AT_ONCE = 20;

        private final byte[] bytes = new byte[MOST];
        int length = 0;

        boolean hasRoom() {
            return length + FED_AT_ONCE <= MOST;
        }

        void append(int four) {
            for (int shift = 24; shift >= 0; shift -= 8) {
                if (length >= 0 && length < MOST) {
                    bytes[length] = (byte) (four >> shift);
                    length++;
                }
            }
        }

        /** The byte at a place, 0 .. 255, or NONE behind the end. */
        int at(int place) {
            return place >= 0 && place < length && place < MOST ? bytes[place] & 255 : NONE;
        }
    }

    /**
     * Reads THE TAPE token by token. With the first FAULT it stops: no token matches any more, so
     * those who read on need not ask after each token, and later faults change nothing.
     */
    private static final class Reader {
        static final int SYNTAX = 1;
        static final int OUT_OF_BOUNDS = 2;
        static final int ROOM = 3;
        static final int TWICE = 4;
        static final int JOINED = 5;

        private static final int AT_END = 0;
        private static final int WORD = 1;
        private static final int NUMBER = 2;
        private static final int SEMICOLON = 3;
        private static final int NO_TOKEN = 4;
        private static final int STOPPED = 5;
        private static final int DIGITS_MOST = 4;

        private final Tape tape;
        private int token = AT_END;
        private int from = 0;
        private int behind = 0;
        private int value = 0;
        int faultKind = 0;
        int faultPlace = NONE;

        Reader(Tape tape) {
            this.tape = tape;
        }

        boolean hasFault() {
            return faultKind != 0;
        }

        void fail(int kind) {
            if (faultKind == 0) {
                faultKind = kind;
                faultPlace = from;
            }
            token = STOPPED;
        }

        /** Goes on to the next token; the first one too wants a call. */
        void advance() {
            while (behind < tape.length && isBlank(tape.at(behind))) {
                behind++;
            }
            from = behind;
            int first = tape.at(from);
            if (isLetter(first)) {
                while (behind < tape.length && isLetter(tape.at(behind))) {
                    behind++;
                }
                token = WORD;
            } else if (isDigit(first)) {
                value = 0;
                while (behind < tape.length && isDigit(tape.at(behind))) {
                    // What overflows here is never used: a run so long is no number.
                    value = value * 10 + tape.at(behind) - '0';
                    behind++;
                }
                token = behind - from <= DIGITS_MOST ? NUMBER : NO_TOKEN;
            } else if (first == NONE) {
                token = AT_END;
            } else {
                token = first == ';' ? SEMICOLON : NO_TOKEN;
                behind++;
            }
        }

        boolean isAtEnd() {
            return token == AT_END;
        }

        boolean isAtNumber() {
            return token == NUMBER;
        }

        boolean isAtWord(String word) {
            if (token != WORD || behind - from != word.length()) {
                return false;
            }
            for (int i = 0; i < word.length(); i++) {
                if (tape.at(from + i) != word.charAt(i)) {
                    return false;
                }
            }
            return true;
        }

        /** Whether this word stands here; then it is passed. */
        boolean passes(String word) {
            if (!isAtWord(word)) {
                return false;
            }
            advance();
            return true;
        }

        void takeWord(String word) {
            if (isAtWord(word)) {
                advance();
            } else {
                fail(SYNTAX);
            }
        }

        void takeSemicolon() {
            if (token == SEMICOLON) {
                advance();
            } else {
                fail(SYNTAX);
            }
        }

        void takeEnd() {
            if (token != AT_END) {
                fail(SYNTAX);
            }
        }

        /** A number within its bounds, or NONE with a FAULT. */
        int takeNumber(int least, int most) {
            if (token != NUMBER) {
                fail(SYNTAX);
                return NONE;
            }
            if (value < least || value > most) {
                fail(OUT_OF_BOUNDS);
                return NONE;
            }
            int taken = value;
            advance();
            return taken;
        }

        private static boolean isBlank(int b) {
            return b == 32 || b == 10;
        }

        private static boolean isLetter(int b) {
            return b >= 'a' && b <= 'z';
        }

        private static boolean isDigit(int b) {
            return b >= '0' && b <= '9';
        }
    }

    /** A COURSE: its spots are the start, each FENCE and the finish, so FENCE f is spot f + 1. */
    private static final class Course {
        private static final int FENCES_MOST = 20;
        private static final int SPOTS_MOST = FENCES_MOST + 2;
        private static final int METRES_MOST = 99;
        private static final int ROOT_MOST = 200;
        private static final int HIGH_LEAST = 50;
        private static final int HIGH_MOST = 200;
        private static final int WIDE_MOST = 450;
        private static final int PARTS_MOST = 3;

        private final int[] xs = new int[SPOTS_MOST];
        private final int[] ys = new int[SPOTS_MOST];
        private final int[] highs = new int[FENCES_MOST];
        private final int[] wides = new int[FENCES_MOST];
        private final int[] obstacleOf = new int[FENCES_MOST];
        private final int[] firstParts = new int[FENCES_MOST];
        private final boolean[] waters = new boolean[FENCES_MOST];
        int fences = 0;
        int obstacles = 0;
        int way = 0;

        void read(Reader in) {
            in.advance();
            in.takeWord("start");
            readSpot(in, 0);
            in.takeSemicolon();
            for (int f = 0; f <= FENCES_MOST && isAtFence(in); f++) {
                readFence(in, f);
            }
            in.takeWord("finish");
            readSpot(in, fences + 1);
            in.takeSemicolon();
            in.takeEnd();
            measure();
        }

        private static boolean isAtFence(Reader in) {
            return in.isAtWord("fence") || in.isAtWord("water");
        }

        private void readSpot(Reader in, int spot) {
            int x = in.takeNumber(0, METRES_MOST);
            int y = in.takeNumber(0, METRES_MOST);
            if (spot >= 0 && spot < SPOTS_MOST) {
                xs[spot] = x;
                ys[spot] = y;
            }
        }

        private void readFence(Reader in, int f) {
            if (f < 0 || f >= FENCES_MOST) {
                in.fail(Reader.ROOM);
                return;
            }
            boolean joined = false;
            waters[f] = in.isAtWord("water");
            in.advance();
            readSpot(in, f + 1);
            if (waters[f]) {
                in.takeWord("wide");
                wides[f] = in.takeNumber(0, WIDE_MOST);
            } else {
                in.takeWord("high");
                highs[f] = in.takeNumber(HIGH_LEAST, HIGH_MOST);
                wides[f] = in.passes("wide") ? in.takeNumber(0, WIDE_MOST) : 0;
                joined = readJoined(in, f);
            }
            in.takeSemicolon();
            if (!joined) {
                obstacles++;
            }
            obstacleOf[f] = obstacles - 1;
            firstParts[f] = joined ? firstPart(f - 1) : f;
            fences = f + 1;
        }

        private boolean readJoined(Reader in, int f) {
            if (!in.isAtWord("joined")) {
                return false;
            }
            if (f == 0 || isWater(f - 1)) {
                in.fail(Reader.JOINED);
                return false;
            }
            in.advance();
            return true;
        }

        private void measure() {
            way = 0;
            for (int spot = 0; spot <= fences; spot++) {
                way += distanceBehind(spot);
            }
        }

        /** From a spot to the next one, in whole metres. */
        private int distanceBehind(int spot) {
            if (spot < 0 || spot + 1 >= SPOTS_MOST) {
                return 0;
            }
            int dx = xs[spot + 1] - xs[spot];
            int dy = ys[spot + 1] - ys[spot];
            return root(dx * dx + dy * dy);
        }

        private static int root(int square) {
            int root = 0;
            while (root < ROOT_MOST && (root + 1) * (root + 1) <= square) {
                root++;
            }
            return root;
        }

        private boolean hasFence(int f) {
            return f >= 0 && f < fences && f < FENCES_MOST;
        }

        boolean isWater(int f) {
            return hasFence(f) && waters[f];
        }

        int obstacleAt(int f) {
            return hasFence(f) ? obstacleOf[f] : NONE;
        }

        /** The first part of the OBSTACLE of a FENCE. */
        int firstPart(int f) {
            return hasFence(f) ? firstParts[f] : f;
        }

        int aboutFence(int f, int what) {
            if (!hasFence(f)) {
                return NONE;
            }
            switch (what) {
                case 0:
                    return xs[f + 1];
                case 1:
                    return ys[f + 1];
                case 2:
                    return highs[f];
                case 3:
                    return wides[f];
                case 4:
                    return obstacleOf[f];
                case 5:
                    return waters[f] ? 1 : 0;
                default:
                    return NONE;
            }
        }

        /** 0 when LEGAL, else 100 times what is wrong first, and its FENCE. */
        int firstWrong(Laws by) {
            for (int f = 0; f < fences; f++) {
                int wrong = wrongWith(f, by);
                if (wrong != 0) {
                    return 100 * wrong + f;
                }
            }
            if (obstacles < by.get(Laws.COUNT) || obstacles > by.get(Laws.COUNT + 1)) {
                return 500;
            }
            return way > by.get(Laws.WAY) ? 600 : 0;
        }

        private int wrongWith(int f, Laws by) {
            if (!hasFence(f)) {
                return 0;
            }
            if (highs[f] > by.get(Laws.MOST)) {
                return 1;
            }
            if (!waters[f] && wides[f] > by.get(Laws.MOST + 1)) {
                return 2;
            }
            int partsAhead = f - firstPart(f);
            if (partsAhead == 0) {
                return 0;
            }
            // Spot f is the FENCE ahead of this one.
            int metres = distanceBehind(f);
            if (metres < by.get(Laws.NEAR) || metres > by.get(Laws.NEAR + 1)) {
                return 3;
            }
            return partsAhead >= PARTS_MOST ? 4 : 0;
        }
    }

    /** LAWS, numbered as law() tells them; a line of the text tells one law or some in a row. */
    private static final class Laws {
        static final int MOST = 0;
        static final int NEAR = 2;
        static final int COUNT = 4;
        static final int WAY = 6;
        static final int WHEEL = 7;
        static final int DOWN = 8;
        static final int WET = 9;
        static final int REFUSAL = 10;
        static final int FALL = 13;
        static final int LATE = 14;
        static final int LATE_SECONDS = 15;
        static final int LIMIT = 16;
        static final int STOOD = 17;
        static final int AGAIN = 18;
        static final int WATCH = 19;
        static final int TEAM = 20;
        static final int REFUSALS_TOLD = 3;

        private static final int ALL = 21;
        private static final int NO_SUCH = -9;
        private static final int LESSER = 1;
        private static final int GREATER = 2;

        private static final int[] UNTOLD = {
            160, 200, 6, 12, 1, 20, 700, 350, 4, 4, 4, 8, NONE, NONE, 1, 4, 200, 6, 1, 0, 3
        };

        private final int[] values = UNTOLD.clone();

        int get(int what) {
            return what >= 0 && what < ALL ? values[what] : NO_SUCH;
        }

        private void set(int what, int value) {
            if (what >= 0 && what < ALL) {
                values[what] = value;
            }
        }

        /** How many lines the text has. */
        int read(Reader in) {
            int lines = 0;
            int told = 0;
            in.advance();
            // Each line tells another law, so a text without a FAULT has fewer lines than laws.
            for (int turn = 0; turn < ALL && !in.isAtEnd() && !in.hasFault(); turn++) {
                int line = lineAt(in);
                if (line == NONE) {
                    in.fail(Reader.SYNTAX);
                } else if ((told >> line & 1) == 1) {
                    in.fail(Reader.TWICE);
                } else {
                    told |= 1 << line;
                    in.advance();
                    readLine(in, line);
                    in.takeSemicolon();
                    lines++;
                }
            }
            return lines;
        }

        /** The first law of the line whose word stands here, or NONE. */
        private static int lineAt(Reader in) {
            for (int law = 0; law < ALL; law++) {
                String word = wordOf(law);
                if (!word.isEmpty() && in.isAtWord(word)) {
                    return law;
                }
            }
            return NONE;
        }

        /** The word of the line that a law begins; empty when it begins none. */
        private static String wordOf(int law) {
            switch (law) {
                case MOST:
                    return "most";
                case NEAR:
                    return "near";
                case COUNT:
                    return "count";
                case WAY:
                    return "way";
                case WHEEL:
                    return "wheel";
                case DOWN:
                    return "down";
                case WET:
                    return "wet";
                case REFUSAL:
                    return "refusal";
                case FALL:
                    return "fall";
                case LATE:
                    return "late";
                case LIMIT:
                    return "limit";
                case STOOD:
                    return "stood";
                case AGAIN:
                    return "again";
                case WATCH:
                    return "watch";
                case TEAM:
                    return "team";
                default:
                    return "";
            }
        }

        private void readLine(Reader in, int line) {
            switch (line) {
                case MOST:
                case NEAR:
                case COUNT:
                case LATE:
                    set(line, readBounded(in, line));
                    set(line + 1, readBounded(in, line + 1));
                    break;
                case REFUSAL:
                    set(line, readBounded(in, line));
                    set(line + 1, in.isAtNumber() ? readBounded(in, line + 1) : NONE);
                    set(line + 2, in.isAtNumber() ? readBounded(in, line + 2) : NONE);
                    break;
                case FALL:
                    set(line, in.passes("out") ? NONE : readBounded(in, line));
                    break;
                case AGAIN:
                    set(line, readAgain(in));
                    break;
                case WATCH:
                    set(line, readWatch(in));
                    break;
                default:
                    set(line, readBounded(in, line));
            }
        }

        private static int readBounded(Reader in, int law) {
            switch (law) {
                case WHEEL:
                    return in.takeNumber(1, 999);
                case LATE_SECONDS:
                    return in.takeNumber(1, 99);
                case LIMIT:
                    return in.takeNumber(100, 999);
                case TEAM:
                    return in.takeNumber(1, 4);
                default:
                    return in.takeNumber(0, 999);
            }
        }

        private static int readAgain(Reader in) {
            if (in.passes("none")) {
                return 0;
            }
            in.takeWord("first");
            return 1;
        }

        private static int readWatch(Reader in) {
            if (in.passes("lesser")) {
                return LESSER;
            }
            if (in.passes("greater")) {
                return GREATER;
            }
            in.takeWord("first");
            return 0;
        }

        /** Seconds in which a way is ridden, rounded up. */
        int timeAllowed(int way) {
            int wheel = get(WHEEL);
            return wheel < 1 ? 0 : (way * 60 + wheel - 1) / wheel;
        }

        /** What the refusal with this number (from 1) costs; NONE: it is out. */
        int priceOfRefusal(int number) {
            return number >= 1 && number <= REFUSALS_TOLD ? get(REFUSAL + number - 1) : NONE;
        }

        /** What the watch in force showed; one watch at least has shown. */
        int watched(int first, int second) {
            if (first == NONE || second == NONE) {
                return first == NONE ? second : first;
            }
            switch (get(WATCH)) {
                case LESSER:
                    return Math.min(first, second);
                case GREATER:
                    return Math.max(first, second);
                default:
                    return first;
            }
        }

        /** LATE FAULTS for tenths of seconds above the TIME ALLOWED. */
        int priceOfLate(int tenthsAbove) {
            int step = get(LATE_SECONDS) * 10;
            if (tenthsAbove <= 0 || step < 1) {
                return 0;
            }
            return get(LATE) * ((tenthsAbove + step - 1) / step);
        }
    }

    /** Who is entered, of which TEAM, and in which order they may start. */
    private static final class Riders {
        private static final int TEAM_MOST = 4;
        private static final int LOT_MOST = 12;

        private final boolean[] entered = new boolean[RIDERS];
        private final int[] teamOf = new int[RIDERS];

        boolean isEntered(int r) {
            return r >= 0 && r < RIDERS && entered[r];
        }

        /** Whether it was otherwise. */
        boolean setEntered(int r, boolean on) {
            if (isEntered(r) == on || r < 0 || r >= RIDERS) {
                return false;
            }
            entered[r] = on;
            teamOf[r] = NONE;
            return true;
        }

        int howMany() {
            int many = 0;
            for (int r = 0; r < RIDERS; r++) {
                if (entered[r]) {
                    many++;
                }
            }
            return many;
        }

        /** The TEAM of a RIDER who is entered, else NONE. */
        int teamOf(int r) {
            return isEntered(r) ? teamOf[r] : NONE;
        }

        int inTeam(int t) {
            int many = 0;
            for (int r = 0; r < RIDERS; r++) {
                if (entered[r] && teamOf[r] == t) {
                    many++;
                }
            }
            return many;
        }

        /** Puts an entered RIDER into a TEAM, or with NONE into none: of which it was, or FULL. */
        int moveTo(int r, int t) {
            int was = teamOf(r);
            if (t != NONE && t != was && inTeam(t) >= TEAM_MOST) {
                return FULL;
            }
            if (isEntered(r)) {
                teamOf[r] = t;
            }
            return was;
        }

        int howManyOrders() {
            int many = howMany();
            return many > LOT_MOST ? FULL : factorial(many);
        }

        private static int factorial(int n) {
            int product = 1;
            for (int i = 2; i <= n && i <= LOT_MOST; i++) {
                product *= i;
            }
            return product;
        }

        int drawn(int number, int i) {
            int many = howMany();
            if (i < 0 || i >= many) {
                return NONE;
            }
            if (number < 0 || many <= LOT_MOST && number >= factorial(many)) {
                return RANGE;
            }
            return many > LOT_MOST ? FULL : drawnOf(many, number, i);
        }

        /** Orders that begin alike stand in one block, as many as those behind have orders. */
        private int drawnOf(int many, int number, int i) {
            int drawnBits = 0;
            int rest = number;
            int rider = NONE;
            for (int turn = 0; turn <= i && turn < many; turn++) {
                int block = factorial(many - 1 - turn);
                if (block < 1) {
                    return NONE;
                }
                rider = waiting(drawnBits, rest / block);
                rest %= block;
                if (rider != NONE) {
                    drawnBits |= 1 << rider;
                }
            }
            return rider;
        }

        /** Of the entered RIDERS who are not drawn yet, the one with so many ahead of it. */
        private int waiting(int drawnBits, int ahead) {
            int passed = 0;
            for (int r = 0; r < RIDERS; r++) {
                if (entered[r] && (drawnBits >> r & 1) == 0) {
                    if (passed == ahead) {
                        return r;
                    }
                    passed++;
                }
            }
            return NONE;
        }
    }

    /** A RIDE that has begun: its EVENTS, and what they come to. */
    private static final class Ride {
        static final int CLEAR = 0;
        static final int DOWN = 1;
        static final int REFUSED = 2;
        static final int REFUSED_DOWN = 3;
        static final int FALL = 4;
        static final int FINISH = 5;
        static final int RETIRED = 6;

        static final int ON_ITS_WAY = 1;
        static final int FINISHED = 2;
        static final int OUT = 3;

        private static final int EVENTS_MOST = 60;
        private static final int WATCH_MOST = 99999;

        private final Course over;
        private final Laws by;
        private final byte[] kinds = new byte[EVENTS_MOST];
        private final byte[] fencesDue = new byte[EVENTS_MOST];
        int events = 0;
        private int state = ON_ITS_WAY;
        int faults = 0;
        private int due = 0;
        private int refusals = 0;
        private int stands = 0;
        int time = NONE;
        private int late = 0;

        Ride(Course over, Laws by) {
            this.over = over;
            this.by = by;
        }

        static boolean mayShow(int watch) {
            return watch >= NONE && watch <= WATCH_MOST;
        }

        boolean isOnItsWay() {
            return state == ON_ITS_WAY;
        }

        boolean hasFenceDue() {
            return isOnItsWay() && due < over.fences;
        }

        boolean hasWaterDue() {
            return hasFenceDue() && over.isWater(due);
        }

        boolean mayFinish() {
            return isOnItsWay() && due >= over.fences;
        }

        boolean isFull() {
            return events >= EVENTS_MOST;
        }

        boolean isCounted() {
            return state == FINISHED;
        }

        int fenceDue() {
            return isOnItsWay() ? due : NONE;
        }

        /** A JUMP, a FALL or RETIRED, which must be possible now. */
        void add(int kind) {
            note(kind);
            work(kind);
        }

        void addFinish(int shown) {
            note(FINISH);
            time = shown + by.get(Laws.STOOD) * 10 * stands;
            int allowed = by.timeAllowed(over.way);
            late = by.priceOfLate(time - allowed * 10);
            faults += late;
            // Both sides are thousandths of a second, so that nothing is cut.
            state = time * 100 > by.get(Laws.LIMIT) * allowed * 10 ? OUT : FINISHED;
        }

        private void note(int kind) {
            if (events >= 0 && events < EVENTS_MOST) {
                kinds[events] = (byte) kind;
                fencesDue[events] = (byte) due;
                events++;
            }
        }

        private void work(int kind) {
            switch (kind) {
                case CLEAR:
                    due++;
                    break;
                case DOWN:
                    faults += by.get(over.isWater(due) ? Laws.WET : Laws.DOWN);
                    due++;
                    break;
                case REFUSED:
                    refuse();
                    break;
                case REFUSED_DOWN:
                    stands++;
                    refuse();
                    break;
                case FALL:
                    pay(by.get(Laws.FALL));
                    break;
                default:
                    state = OUT;
            }
        }

        private void refuse() {
            refusals++;
            due = over.firstPart(due);
            pay(by.priceOfRefusal(refusals));
        }

        private void pay(int price) {
            if (price == NONE) {
                state = OUT;
            } else {
                faults += price;
            }
        }

        /**
         * Works all EVENTS but the latest anew. None of them ended the RIDE, or there would be none
         * behind it, so these are JUMPS and FALLS alone.
         */
        void takeBack() {
            if (events > 0) {
                events--;
            }
            state = ON_ITS_WAY;
            faults = 0;
            due = 0;
            refusals = 0;
            stands = 0;
            time = NONE;
            late = 0;
            for (int i = 0; i < events && i < EVENTS_MOST; i++) {
                work(kinds[i]);
            }
        }

        int tell(int what) {
            switch (what) {
                case 0:
                    return state;
                case 1:
                    return faults;
                case 2:
                    return fenceDue();
                case 3:
                    return refusals;
                case 4:
                    return stands;
                case 5:
                    return time;
                case 6:
                    return late;
                case 7:
                    return events;
                default:
                    return NONE;
            }
        }

        /** JUMPS of an OBSTACLE: with what 0 all, 1 those that were down, 2 those refused. */
        int jumpsOf(int obstacle, int what) {
            int many = 0;
            for (int i = 0; i < events && i < EVENTS_MOST; i++) {
                if (isOfKind(kinds[i], what) && over.obstacleAt(fencesDue[i]) == obstacle) {
                    many++;
                }
            }
            return many;
        }

        private static boolean isOfKind(int kind, int what) {
            switch (what) {
                case 0:
                    return kind <= REFUSED_DOWN;
                case 1:
                    return kind == DOWN || kind == REFUSED_DOWN;
                default:
                    return kind == REFUSED || kind == REFUSED_DOWN;
            }
        }
    }

    /** All RIDES that have begun, by RIDER and number. */
    private static final class Rides {
        private static final int EACH = 2;
        private static final int ALL = RIDERS * EACH;

        private final Ride[] begun = new Ride[ALL];
        private int howMany = 0;

        static boolean mayBe(int r, int k) {
            return r >= 0 && r < RIDERS && k >= 0 && k < EACH;
        }

        boolean someBegun() {
            return howMany > 0;
        }

        /** The RIDE, or null when it has not begun. */
        Ride of(int r, int k) {
            return mayBe(r, k) ? begun[r * EACH + k] : null;
        }

        void put(int r, int k, Ride it) {
            if (mayBe(r, k)) {
                begun[r * EACH + k] = it;
                howMany++;
            }
        }

        /** Whether a RIDE has finished and isn't OUT. */
        boolean counts(int r, int k) {
            Ride it = of(r, k);
            return it != null && it.isCounted();
        }

        /** FAULTS, then TIME of a RIDE that counts, as one number to compare; else NONE. */
        long scoreOf(int r, int k) {
            Ride it = of(r, k);
            return it != null && it.isCounted() ? Score.of(it.faults, it.time) : NONE;
        }

        int begunOf(int k) {
            int many = 0;
            for (int r = 0; r < RIDERS; r++) {
                if (of(r, k) != null) {
                    many++;
                }
            }
            return many;
        }

        int countingOf(int k) {
            int many = 0;
            for (int r = 0; r < RIDERS; r++) {
                if (counts(r, k)) {
                    many++;
                }
            }
            return many;
        }

        int jumpsOf(int k, int obstacle, int what) {
            int many = 0;
            for (int r = 0; r < RIDERS; r++) {
                Ride it = of(r, k);
                if (it != null) {
                    many += it.jumpsOf(obstacle, what);
                }
            }
            return many;
        }
    }

    /**
     * FAULTS above TIME in one long, so that the lesser is the better. TIMES of a whole TEAM stay
     * far below the 30 bits that they have here, and its FAULTS too.
     */
    private static final class Score {
        private static final int TIME_BITS = 30;
        private static final long TIME_MASK = (1L << TIME_BITS) - 1;

        static final long MOST = 1L << 60;

        static long of(int faults, int time) {
            return ((long) faults << TIME_BITS) + time;
        }

        static int faults(long score) {
            return (int) (score >> TIME_BITS);
        }

        static int time(long score) {
            return (int) (score & TIME_MASK);
        }
    }

    /** PLACES of RIDERS as they are when taken; a lesser rank is ahead, NONE has no PLACE. */
    private static final class Standing {
        private final long[] ranks = new long[RIDERS];
        private final boolean[] asked = new boolean[RIDERS];

        void take(Rides rides, Laws by) {
            long fewest = fewestFaults(rides);
            boolean again = by.get(Laws.AGAIN) == 1 && withFaults(rides, fewest) >= 2;
            for (int r = 0; r < RIDERS; r++) {
                long score = rides.scoreOf(r, 0);
                asked[r] = again && score != NONE && Score.faults(score) == fewest;
                if (asked[r]) {
                    ranks[r] = rankAgain(rides.scoreOf(r, 1));
                } else {
                    ranks[r] = score == NONE ? NONE : score + 2 * Score.MOST;
                }
            }
        }

        /** Who is ASKED is ahead of all others, and alike without a RIDE 1 that counts. */
        private static long rankAgain(long score) {
            return score == NONE ? Score.MOST : score;
        }

        private static long fewestFaults(Rides rides) {
            long fewest = NONE;
            for (int r = 0; r < RIDERS; r++) {
                long score = rides.scoreOf(r, 0);
                if (score != NONE && (fewest == NONE || Score.faults(score) < fewest)) {
                    fewest = Score.faults(score);
                }
            }
            return fewest;
        }

        private static int withFaults(Rides rides, long faults) {
            int many = 0;
            for (int r = 0; r < RIDERS; r++) {
                long score = rides.scoreOf(r, 0);
                if (score != NONE && Score.faults(score) == faults) {
                    many++;
                }
            }
            return many;
        }

        boolean isAsked(int r) {
            return r >= 0 && r < RIDERS && asked[r];
        }

        int howManyAsked() {
            int many = 0;
            for (int r = 0; r < RIDERS; r++) {
                if (asked[r]) {
                    many++;
                }
            }
            return many;
        }

        int placeOf(int r) {
            if (r < 0 || r >= RIDERS || ranks[r] == NONE) {
                return NONE;
            }
            int ahead = 0;
            for (int other = 0; other < RIDERS; other++) {
                if (ranks[other] != NONE && ranks[other] < ranks[r]) {
                    ahead++;
                }
            }
            return 1 + ahead;
        }

        int riderAt(int i) {
            for (int r = 0; r < RIDERS; r++) {
                int place = placeOf(r);
                if (place != NONE && place - 1 + alikeAhead(r) == i) {
                    return r;
                }
            }
            return NONE;
        }

        /** Alike ones with a lesser number. */
        private int alikeAhead(int r) {
            int many = 0;
            for (int other = 0; other < r && r < RIDERS; other++) {
                if (ranks[other] == ranks[r]) {
                    many++;
                }
            }
            return many;
        }
    }

    /** What TEAMS have, by the best RIDES 0 of each, as they are when taken. */
    private static final class TeamStanding {
        private final int[] teamOf = new int[RIDERS];
        private final long[] scores = new long[RIDERS];
        private int best = 0;

        void take(Riders riders, Rides rides, Laws by) {
            best = by.get(Laws.TEAM);
            for (int r = 0; r < RIDERS; r++) {
                teamOf[r] = riders.teamOf(r);
                scores[r] = rides.scoreOf(r, 0);
            }
        }

        int tell(int t, int what) {
            long sum = sumOf(t);
            if (sum == NONE) {
                return NONE;
            }
            switch (what) {
                case 1:
                    return Score.faults(sum);
                case 2:
                    return Score.time(sum);
                case 3:
                    return placeWith(sum);
                default:
                    return NONE;
            }
        }

        private int placeWith(long sum) {
            int ahead = 0;
            for (int t = 0; t < TEAMS; t++) {
                long other = sumOf(t);
                if (other != NONE && other < sum) {
                    ahead++;
                }
            }
            return 1 + ahead;
        }

        /** The sum of a TEAM's best RIDES, or NONE when too few count. */
        private long sumOf(int t) {
            long sum = 0;
            int summed = 0;
            for (int r = 0; r < RIDERS; r++) {
                if (countsFor(t, r) && aheadIn(t, r) < best) {
                    sum += scores[r];
                    summed++;
                }
            }
            return summed < best ? NONE : sum;
        }

        private boolean countsFor(int t, int r) {
            return r >= 0 && r < RIDERS && teamOf[r] == t && scores[r] != NONE;
        }

        /** How many of its TEAM go ahead of a RIDER; of alike ones the lesser number does. */
        private int aheadIn(int t, int r) {
            int ahead = 0;
            for (int other = 0; other < RIDERS && r >= 0 && r < RIDERS; other++) {
                boolean better = scores[other] < scores[r] || scores[other] == scores[r] && other < r;
                if (better && countsFor(t, other)) {
                    ahead++;
                }
            }
            return ahead;
        }
    }
}
