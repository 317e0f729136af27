/** Sentences about rides: Terms III, promises 15 to 21. */
final class EdgeRides {
    private static final int NONE = JumpRing.NONE;
    private static final int RANGE = JumpRing.RANGE;
    private static final int FULL = JumpRing.FULL;
    private static final int STATE = JumpRing.STATE;
    private static final int[][] NO_RIDES = {{-1, 0}, {30, 0}, {Integer.MAX_VALUE, 0}, {Integer.MIN_VALUE, 1},
        {4, -1}, {4, 2}, {4, Integer.MAX_VALUE}, {4, Integer.MIN_VALUE}};

    // 70 metres: 12 seconds at 350 metres a minute. Obstacles 0, 1 1 1, 2 (water), 3.
    private static final String COURSE = "start 0 0;fence 10 0 high 120;fence 20 0 high 120;"
            + "fence 28 0 high 120 joined;fence 36 0 high 120 joined;water 50 0 wide 300;"
            + "fence 60 0 high 120;finish 70 0;";
    private static final String SHORT = "start 0 0;water 10 0 wide 9;finish 20 0;";

    private EdgeRides() {
    }

    static void hold(Edges e) {
        tellingAnew(e);
        room(e);
        faults(e);
        outAtOnce(e);
        firstPart(e);
        finishWhen(e);
        watches(e);
        late(e);
        limit(e);
        beginning(e);
        jumping(e);
        fallsAndRetired(e);
        finishing(e);
        takingBack(e);
        telling(e);
    }

    private static JumpRing ring(String laws) {
        JumpRing x = new JumpRing();
        Check.course(x, 0, COURSE);
        Check.course(x, 1, SHORT);
        Check.laws(x, laws);
        x.enter(4, true);
        x.enter(5, true);
        return x;
    }

    /** RIDER 4 on its way, with these jumps behind it. */
    private static JumpRing begun(String laws, int... hows) {
        JumpRing x = ring(laws);
        x.begin(4, 0);
        jumps(x, hows);
        return x;
    }

    private static void jumps(JumpRing x, int... hows) {
        for (int how : hows) {
            x.jump(4, 0, how);
        }
    }

    private static JumpRing jumped(String laws) {
        return begun(laws, 0, 0, 0, 0, 0, 0);
    }

    private static void rideIs(Edges e, String when, JumpRing x, int... want) {
        for (int what = 0; what < want.length; what++) {
            e.due(when + ": ride(4, 0, " + what + ")", x.ride(4, 0, what), want[what]);
        }
    }

    private static void tellingAnew(Edges e) {
        e.terms("COURSES 0, 1 and LAWS can't be told anew when some RIDE has begun.");
        JumpRing x = ring("");
        e.due("ahead of it, course 0", Check.course(x, 0, COURSE), 6);
        e.due("ahead of it, course 1", Check.course(x, 1, SHORT), 1);
        e.due("ahead of it, laws", Check.laws(x, "down 5;"), 1);
        x.begin(4, 0);
        e.due("course 0", Check.course(x, 0, SHORT), STATE);
        e.due("course 1", Check.course(x, 1, COURSE), STATE);
        e.due("laws", Check.laws(x, "down 6;"), STATE);
        e.due("course 0 is as it was", x.about(0, 0), 6);
        e.due("course 1 is as it was", x.about(1, 0), 1);
        e.due("laws are as they were", x.law(8), 5);
    }

    private static void room(Edges e) {
        e.terms("At most 60 EVENTS.");
        JumpRing x = begun("fall 0;");
        for (int i = 1; i <= 60; i++) {
            e.due("fall " + i, x.fall(4, 0), 1);
            e.due("events", x.ride(4, 0, 7), i);
        }
        e.due("a 61st fall", x.fall(4, 0), FULL);
        e.due("a 61st that retires", x.retire(4, 0), FULL);
        e.due("a 61st jump", x.jump(4, 0, 0), FULL);
        e.due("a 61st refusal", x.jump(4, 0, 2), FULL);
        e.due("events then", x.ride(4, 0, 7), 60);
        rideIs(e, "on its way still", x, 1, 0, 0, 0, 0, NONE, 0, 60);
        e.due("another RIDER has room", x.begin(5, 0) + x.fall(5, 0), 2);
        e.due("one is taken back", x.back(4, 0), 59);
        e.due("the 60th may be a jump", x.jump(4, 0, 0), 1);
        x.back(4, 0);
        e.due("or retire", x.retire(4, 0), 1);
        e.due("events of one that is out", x.ride(4, 0, 7), 60);
        x = begun("fall 0;");
        for (int i = 0; i < 53; i++) {
            x.fall(4, 0);
        }
        jumps(x, 0, 0, 0, 0, 0, 0);
        e.due("the finish may be the 60th", x.finish(4, 0, 9, NONE), 9);
        x.back(4, 0);
        x.fall(4, 0);
        e.due("the finish as the 61st", x.finish(4, 0, 9, NONE), FULL);
        rideIs(e, "no finish", x, 1, 0, 6, 0, 0, NONE, 0, 60);
    }

    private static void faults(Edges e) {
        e.terms("down for each 1 (of water wet)");
        JumpRing x = begun("down 3;wet 50;", 1);
        rideIs(e, "one down", x, 1, 3);
        jumps(x, 1, 0, 1);
        rideIs(e, "three down", x, 1, 9);
        jumps(x, 1);
        rideIs(e, "wet", x, 1, 59);
        x = begun("down 0;wet 0;", 1, 1, 1, 1, 1, 1);
        rideIs(e, "nothing for either", x, 1, 0, 6);

        e.terms("what refusal tells for the first, second, third one (2 and 3 alike)");
        x = begun("refusal 1 20 300;down 7;", 2);
        rideIs(e, "the first, 2", x, 1, 1, 0, 1, 0);
        jumps(x, 3);
        rideIs(e, "the second, 3", x, 1, 21, 0, 2, 1);
        jumps(x, 2);
        rideIs(e, "the third, 2", x, 1, 321, 0, 3, 1);
        x = begun("refusal 1 20 300;down 7;", 3, 0, 2, 0, 0, 3);
        rideIs(e, "the third, 3, over two obstacles", x, 1, 321, 1, 3, 2);
        x = begun("refusal 0 0 0;", 2, 3, 2);
        rideIs(e, "an N that is 0 is no out", x, 1, 0, 0, 3, 1);

        e.terms("fall, if it is no out; behind the FINISH LATE ones.");
        x = jumped("fall 9;");
        x.fall(4, 0);
        rideIs(e, "a fall", x, 1, 9, 6, 0, 0, NONE, 0, 7);
        x.fall(4, 0);
        rideIs(e, "two falls", x, 1, 18, 6, 0, 0, NONE, 0, 8);
        x.finish(4, 0, 161, NONE);
        rideIs(e, "late ones", x, 2, 20, NONE, 0, 0, 161, 2, 9);
    }

    private static void outAtOnce(Edges e) {
        e.terms("A refusal that has no N, a FALL that is out, RETIRED: the RIDE is OUT at once.");
        String[] laws = {"refusal 1;fall 7;", "refusal 1 2;fall 7;", "refusal 1 2 3;fall 7;"};
        int[] faults = {1, 3, 6};
        for (int n = 1; n <= 3; n++) {
            for (int how = 2; how <= 3; how++) {
                JumpRing x = begun(laws[n - 1]);
                for (int i = 1; i <= n; i++) {
                    e.due(laws[n - 1] + " refusal " + i, x.jump(4, 0, how), 0);
                }
                e.due(laws[n - 1] + " one more", x.jump(4, 0, how), NONE);
                rideIs(e, laws[n - 1], x, 3, faults[n - 1], NONE, n + 1, how == 3 ? n + 1 : 0, NONE, 0, n + 1);
                e.due("nothing comes behind", x.jump(4, 0, 0), STATE);
            }
        }
        JumpRing x = begun("fall out;", 1);
        e.due("a fall that is out", x.fall(4, 0), 0);
        rideIs(e, "a fall that is out", x, 3, 4, NONE, 0, 0, NONE, 0, 2);
        x = begun("fall 0;", 1);
        e.due("a fall that is not", x.fall(4, 0), 1);
        rideIs(e, "a fall that is not", x, 1, 4, 1, 0, 0, NONE, 0, 2);
        e.due("retired", x.retire(4, 0), 1);
        rideIs(e, "retired", x, 3, 4, NONE, 0, 0, NONE, 0, 3);
    }

    private static void firstPart(Edges e) {
        e.terms("Behind a refusal the first part of its OBSTACLE is due again.");
        int[] first = {0, 1, 1, 1, 4, 5};
        for (int f = 0; f < 6; f++) {
            JumpRing x = begun("");
            for (int i = 0; i < f; i++) {
                x.jump(4, 0, 0);
            }
            e.due("2 at fence " + f, x.jump(4, 0, 2), first[f]);
            x.back(4, 0);
            e.due("3 at fence " + f, x.jump(4, 0, 3), f == 4 ? RANGE : first[f]);
        }
        JumpRing x = begun("", 0, 1, 2);
        e.due("a part that was down is down again", x.jump(4, 0, 1), 2);
        rideIs(e, "twice down, once refused", x, 1, 12, 2, 1);
    }

    private static void finishWhen(Edges e) {
        e.terms("FINISH may be when all FENCES are jumped.");
        JumpRing x = begun("");
        for (int f = 0; f < 6; f++) {
            e.due("behind " + f, x.finish(4, 0, 1, 1), STATE);
            x.jump(4, 0, 0);
        }
        e.due("behind all", x.finish(4, 0, 1, 1), 1);
        x = begun("", 0, 0, 0, 0, 0, 2);
        e.due("the last one refused", x.finish(4, 0, 1, 1), STATE);
    }

    private static void watches(Edges e) {
        e.terms("the FINISH with what both watches showed (tenths of seconds; NONE: nothing; one at least shows)");
        JumpRing x = jumped("");
        e.due("neither shows", x.finish(4, 0, NONE, NONE), RANGE);
        e.due("the first shows 0", x.finish(4, 0, 0, NONE), 0);
        x.back(4, 0);
        e.due("the second shows 0", x.finish(4, 0, NONE, 0), 0);

        e.terms("(first: the first one, if it showed, else the second; lesser, greater: of those that showed)");
        String[] laws = {"watch first;", "watch lesser;", "watch greater;"};
        int[][] shown = {{70, 80}, {80, 70}, {75, 75}, {70, NONE}, {NONE, 80}, {0, 80}, {80, 0}, {0, NONE}, {NONE, 0}};
        int[][] want = {{70, 80, 75, 70, 80, 0, 80, 0, 0}, {70, 70, 75, 70, 80, 0, 0, 0, 0},
            {80, 80, 75, 70, 80, 80, 80, 0, 0}};
        for (int i = 0; i < laws.length; i++) {
            x = jumped(laws[i]);
            for (int j = 0; j < shown.length; j++) {
                String when = laws[i] + " " + shown[j][0] + ", " + shown[j][1];
                e.due(when, x.finish(4, 0, shown[j][0], shown[j][1]), want[i][j]);
                e.due(when + " told", x.ride(4, 0, 5), want[i][j]);
                x.back(4, 0);
            }
        }

        e.terms("stood seconds for each time the clock stood");
        int[] stood = {0, 1, 999};
        for (int seconds : stood) {
            x = begun("refusal 0 0 0;stood " + seconds + ";", 3, 2, 3, 0, 0, 0, 0, 0, 0);
            e.due("stood " + seconds + " twice", x.finish(4, 0, 5, NONE), 5 + 20 * seconds);
        }
        x = begun("refusal 0 0 0;stood 999;", 3, 3, 3, 0, 0, 0, 0, 0, 0);
        e.due("the longest TIME", x.finish(4, 0, 99999, NONE), 99999 + 3 * 9990);
        x = begun("stood 999;", 2, 0, 0, 0, 0, 0, 0);
        e.due("a refusal alone lets it run", x.finish(4, 0, 5, NONE), 5);
    }

    private static void late(Edges e) {
        e.terms("LATE: if it is above the TIME ALLOWED: the first of late for each begun so many seconds"
                + " (its second) above it.");
        int[][] secondsTimeSteps = {{1, 119, 0}, {1, 120, 0}, {1, 121, 1}, {1, 130, 1}, {1, 131, 2}, {1, 140, 2},
            {1, 141, 3}, {4, 120, 0}, {4, 121, 1}, {4, 160, 1}, {4, 161, 2}, {99, 120, 0}, {99, 121, 1}, {99, 1110, 1},
            {99, 1111, 2}, {1, 99999, 9988}};
        for (int[] one : secondsTimeSteps) {
            JumpRing x = jumped("late 3 " + one[0] + ";limit 999;");
            x.finish(4, 0, one[1], NONE);
            e.due("late 3 " + one[0] + " of " + one[1], x.ride(4, 0, 6), 3 * one[2]);
            e.due("faults of late 3 " + one[0] + " of " + one[1], x.ride(4, 0, 1), 3 * one[2]);
        }
        JumpRing x = begun("stood 1;late 1 1;refusal 0;", 3, 0, 0, 0, 0, 0, 0);
        x.finish(4, 0, 110, NONE);
        e.due("the clock stood, not above", x.ride(4, 0, 6), 0);
        x.back(4, 0);
        x.finish(4, 0, 111, NONE);
        e.due("the clock stood, above", x.ride(4, 0, 6), 1);
        x = jumped("late 0 1;");
        x.finish(4, 0, 240, NONE);
        e.due("late 0", x.ride(4, 0, 6), 0);
        x = jumped("late 999 1;");
        x.finish(4, 0, 99999, NONE);
        e.due("the most FAULTS", x.ride(4, 0, 1), 999 * 9988);
    }

    private static void limit(Edges e) {
        e.terms("OUT too, if it is above limit hundredths of the TIME ALLOWED.");
        int[] limits = {100, 101, 105, 133, 200, 999};
        for (int limit : limits) {
            JumpRing x = jumped("limit " + limit + ";");
            int most = 120 * limit / 100;
            x.finish(4, 0, most, NONE);
            e.due("not above " + limit, x.ride(4, 0, 0), 2);
            x.back(4, 0);
            x.finish(4, 0, most + 1, NONE);
            e.due("above " + limit, x.ride(4, 0, 0), 3);
        }
        JumpRing x = begun("stood 12;", 3, 0, 0, 0, 0, 0, 0);
        x.finish(4, 0, 120, NONE);
        e.due("the clock stood, not above", x.ride(4, 0, 0), 2);
        x.back(4, 0);
        x.finish(4, 0, 121, NONE);
        e.due("the clock stood, above", x.ride(4, 0, 0), 3);
        x = new JumpRing();
        Check.course(x, 0, "start 7 7;finish 7 7;");
        x.enter(4, true);
        x.begin(4, 0);
        x.finish(4, 0, 0, NONE);
        e.due("no time allowed, none taken", x.ride(4, 0, 0), 2);
        x.back(4, 0);
        x.finish(4, 0, 1, NONE);
        e.due("no time allowed, a tenth taken", x.ride(4, 0, 0), 3);
        // the longest way at the least wheel: no number here may wrap around
        x = new JumpRing();
        Check.course(x, 0, "start 99 99;" + "water 0 0 wide 0;water 99 99 wide 0;".repeat(10) + "finish 0 0;");
        Check.laws(x, "wheel 1;limit 999;");
        x.enter(4, true);
        x.begin(4, 0);
        for (int f = 0; f < 20; f++) {
            x.jump(4, 0, 0);
        }
        e.due("the most TIME ALLOWED", x.about(0, 3), 176400);
        e.due("within it", x.finish(4, 0, 99999, NONE), 99999);
        e.due("far from its limit", x.ride(4, 0, 0), 2);
        e.due("not late", x.ride(4, 0, 6), 0);
    }

    private static void beginning(Edges e) {
        e.promise(15, "RANGE: no such RIDER (entered), k;");
        JumpRing x = ring("");
        for (int[] rk : NO_RIDES) {
            e.due("begin(" + rk[0] + ", " + rk[1] + ")", x.begin(rk[0], rk[1]), RANGE);
        }
        e.due("who isn't entered", x.begin(3, 0), RANGE);
        e.due("who isn't entered, RIDE 1", x.begin(3, 1), RANGE);
        x.enter(5, false);
        e.due("who isn't entered any more", x.begin(5, 0), RANGE);
        e.due("nobody has begun", x.count(1) + x.count(2), 0);

        e.promise(15, "STATE: that COURSE was not told, it has begun that RIDE, or for k 1:"
                + " its RIDE 0 isn't finished, or is OUT.");
        JumpRing untold = new JumpRing();
        untold.enter(4, true);
        e.due("no COURSE at all", untold.begin(4, 0), STATE);
        Check.course(untold, 1, SHORT);
        e.due("COURSE 1 alone", untold.begin(4, 0), STATE);
        e.due("RIDE 1 first", untold.begin(4, 1), STATE);
        Check.course(untold, 0, "start 0 0;finish 9 9;");
        untold.begin(4, 0);
        untold.finish(4, 0, 1, NONE);
        e.due("both were told", untold.begin(4, 1), 1);
        JumpRing zero = new JumpRing();
        Check.course(zero, 0, "start 0 0;finish 9 9;");
        zero.enter(4, true);
        zero.begin(4, 0);
        zero.finish(4, 0, 1, NONE);
        e.due("COURSE 0 alone, RIDE 1", zero.begin(4, 1), STATE);
        e.due("RIDE 1 ahead of RIDE 0", x.begin(4, 1), STATE);
        x.begin(4, 0);
        e.due("twice", x.begin(4, 0), STATE);
        e.due("RIDE 1 when RIDE 0 is on its way", x.begin(4, 1), STATE);
        x.retire(4, 0);
        e.due("twice when out", x.begin(4, 0), STATE);
        e.due("RIDE 1 when RIDE 0 is out", x.begin(4, 1), STATE);
        x.back(4, 0);
        e.due("twice without events", x.begin(4, 0), STATE);
        jumps(x, 0, 0, 0, 0, 0, 0);
        x.finish(4, 0, 241, NONE);
        e.due("RIDE 1 when RIDE 0 is above the limit", x.begin(4, 1), STATE);
        x.back(4, 0);
        e.due("RIDE 1 when the finish is taken back", x.begin(4, 1), STATE);
        x.finish(4, 0, 240, NONE);
        e.due("RIDE 1", x.begin(4, 1), 1);
        e.due("RIDE 1 twice", x.begin(4, 1), STATE);
        x.retire(4, 1);
        e.due("RIDE 1 twice when out", x.begin(4, 1), STATE);

        e.promise(15, "(Any number may be on their way at once.)");
        x = ring("");
        for (int r = 0; r < 30; r++) {
            x.enter(r, true);
            e.due("begin(" + r + ")", x.begin(r, 0), 1);
        }
        for (int r = 0; r < 30; r++) {
            x.jump(r, 0, r % 2);
        }
        for (int r = 0; r < 30; r++) {
            e.due("faults of " + r, x.ride(r, 0, 1), 4 * (r % 2));
            e.due("due of " + r, x.ride(r, 0, 2), 1);
        }
    }

    private static void jumping(Edges e) {
        e.promise(16, "how 0 .. 3: the FENCE due then (as many as there are: the FINISH; NONE: the RIDE is OUT);");
        JumpRing x = begun("refusal 0;");
        e.due("clear", x.jump(4, 0, 0), 1);
        e.due("down", x.jump(4, 0, 1), 2);
        e.due("refused", x.jump(4, 0, 2), 1);
        jumps(x, 0, 0, 0, 0);
        e.due("the last one", x.jump(4, 0, 0), 6);
        x.back(4, 0);
        e.due("out", x.jump(4, 0, 3), NONE);

        e.promise(16, "RANGE: no such RIDER, k, how;");
        x = begun("");
        for (int[] rk : NO_RIDES) {
            e.due("jump(" + rk[0] + ", " + rk[1] + ", 0)", x.jump(rk[0], rk[1], 0), RANGE);
        }
        int[] noHows = {-1, 4, Integer.MAX_VALUE, Integer.MIN_VALUE};
        for (int how : noHows) {
            e.due("how " + how, x.jump(4, 0, how), RANGE);
            e.due("how " + how + ", not begun", x.jump(5, 0, how), RANGE);
        }
        rideIs(e, "nothing was jumped", x, 1, 0, 0, 0, 0, NONE, 0, 0);

        e.promise(16, "STATE: it isn't on its way, or no FENCE is due;");
        e.due("not entered", x.jump(0, 0, 0), STATE);
        e.due("not begun", x.jump(5, 0, 0), STATE);
        e.due("RIDE 1 not begun", x.jump(4, 1, 0), STATE);
        x.retire(4, 0);
        e.due("out", x.jump(4, 0, 0), STATE);
        x.back(4, 0);
        jumps(x, 0, 0, 0, 0, 0, 0);
        for (int how = 0; how < 4; how++) {
            e.due("no FENCE is due, how " + how, x.jump(4, 0, how), STATE);
        }
        x.finish(4, 0, 1, NONE);
        e.due("finished", x.jump(4, 0, 0), STATE);
        x.begin(4, 1);
        e.due("RIDE 0 when RIDE 1 is on its way", x.jump(4, 0, 0), STATE);

        e.promise(16, "RANGE: 3 of water; FULL.");
        e.due("RIDE 1 at water", x.jump(4, 1, 3), RANGE);
        e.due("2 of water", x.jump(4, 1, 2), 0);
        e.due("1 of water", x.jump(4, 1, 1), 1);
        x = begun("fall 0;", 0, 0, 0, 0);
        e.due("RIDE 0 at water", x.jump(4, 0, 3), RANGE);
        rideIs(e, "no clock stood", x, 1, 0, 4, 0, 0, NONE, 0, 4);
        for (int i = 4; i < 60; i++) {
            x.fall(4, 0);
        }
        e.due("3 of water, and no room", x.jump(4, 0, 3), RANGE);
        for (int how = 0; how < 3; how++) {
            e.due("no room, how " + how, x.jump(4, 0, how), FULL);
        }
        e.due("no such how, and no room", x.jump(4, 0, 4), RANGE);
        rideIs(e, "as it was", x, 1, 0, 4, 0, 0, NONE, 0, 60);
    }

    private static void fallsAndRetired(Edges e) {
        e.promise(17, "1 if it goes on, 0 if the RIDE is OUT; RANGE; STATE: it isn't on its way; FULL.");
        JumpRing x = begun("fall 3;");
        e.due("it goes on", x.fall(4, 0), 1);
        JumpRing out = begun("");
        e.due("it is out", out.fall(4, 0), 0);
        e.due("out already", out.fall(4, 0), STATE);
        for (int[] rk : NO_RIDES) {
            e.due("fall(" + rk[0] + ", " + rk[1] + ")", x.fall(rk[0], rk[1]), RANGE);
        }
        e.due("not entered", x.fall(0, 0), STATE);
        e.due("not begun", x.fall(5, 0), STATE);
        e.due("RIDE 1 not begun", x.fall(4, 1), STATE);
        jumps(x, 0, 0, 0, 0, 0, 0);
        e.due("ahead of the finish", x.fall(4, 0), 1);
        x.finish(4, 0, 9, NONE);
        e.due("finished", x.fall(4, 0), STATE);
        x.begin(4, 1);
        for (int i = 0; i < 60; i++) {
            e.due("RIDE 1 goes on", x.fall(4, 1), 1);
        }
        e.due("no room", x.fall(4, 1), FULL);
        e.due("its FAULTS", x.ride(4, 1, 1), 180);

        e.promise(18, "RETIRED: 1; RANGE, STATE, FULL likewise.");
        e.due("no room", x.retire(4, 1), FULL);
        e.due("it is on its way still", x.ride(4, 1, 0), 1);
        x.back(4, 1);
        e.due("room again", x.retire(4, 1), 1);
        e.due("out", x.retire(4, 1), STATE);
        e.due("finished", x.retire(4, 0), STATE);
        for (int[] rk : NO_RIDES) {
            e.due("retire(" + rk[0] + ", " + rk[1] + ")", x.retire(rk[0], rk[1]), RANGE);
        }
        e.due("not entered", x.retire(0, 0), STATE);
        e.due("not begun", x.retire(5, 0), STATE);
        JumpRing y = jumped("");
        e.due("ahead of the finish", y.retire(4, 0), 1);
        rideIs(e, "ahead of the finish", y, 3, 0, NONE, 0, 0, NONE, 0, 7);
    }

    private static void finishing(Edges e) {
        e.promise(19, "with what both watches showed (0 .. 99999, or NONE): its TIME in tenths;");
        int[] shown = {0, 1, 99998, 99999};
        JumpRing x = jumped("");
        for (int tenths : shown) {
            e.due("first " + tenths, x.finish(4, 0, tenths, NONE), tenths);
            x.back(4, 0);
            e.due("second " + tenths, x.finish(4, 0, NONE, tenths), tenths);
            x.back(4, 0);
        }
        e.promise(19, "RANGE: no such, or none showed;");
        for (int[] rk : NO_RIDES) {
            e.due("finish(" + rk[0] + ", " + rk[1] + ")", x.finish(rk[0], rk[1], 1, 1), RANGE);
        }
        int[] noTimes = {-2, 100000, Integer.MAX_VALUE, Integer.MIN_VALUE};
        for (int tenths : noTimes) {
            e.due("first " + tenths, x.finish(4, 0, tenths, 1), RANGE);
            e.due("second " + tenths, x.finish(4, 0, 1, tenths), RANGE);
            e.due("first " + tenths + " alone", x.finish(4, 0, tenths, NONE), RANGE);
            e.due("second " + tenths + " alone", x.finish(4, 0, NONE, tenths), RANGE);
        }
        e.due("none showed", x.finish(4, 0, NONE, NONE), RANGE);
        rideIs(e, "no finish", x, 1, 0, 6, 0, 0, NONE, 0, 6);

        e.promise(19, "STATE: it isn't on its way, or a FENCE is due; FULL.");
        e.due("not entered", x.finish(0, 0, 1, 1), STATE);
        e.due("not begun", x.finish(5, 0, 1, 1), STATE);
        e.due("RIDE 1 not begun", x.finish(4, 1, 1, 1), STATE);
        x.finish(4, 0, 1, 1);
        e.due("finished", x.finish(4, 0, 2, 2), STATE);
        e.due("its TIME stays", x.ride(4, 0, 5), 1);
        x.back(4, 0);
        x.back(4, 0);
        e.due("a FENCE is due", x.finish(4, 0, 1, 1), STATE);
        x.retire(4, 0);
        e.due("out", x.finish(4, 0, 1, 1), STATE);
        x = jumped("fall 0;");
        for (int i = 6; i < 60; i++) {
            x.fall(4, 0);
        }
        e.due("no room", x.finish(4, 0, 1, 1), FULL);
        e.due("none showed, and no room", x.finish(4, 0, NONE, NONE), RANGE);
    }

    private static void takingBack(Edges e) {
        e.promise(20, "(also of one that is finished or OUT): how many it has then;");
        JumpRing x = begun("", 0, 1);
        e.due("on its way", x.back(4, 0), 1);
        rideIs(e, "on its way", x, 1, 0, 1, 0, 0, NONE, 0, 1);
        x.fall(4, 0);
        e.due("out by a fall", x.back(4, 0), 1);
        rideIs(e, "out by a fall", x, 1, 0, 1, 0, 0, NONE, 0, 1);
        x.retire(4, 0);
        e.due("retired", x.back(4, 0), 1);
        rideIs(e, "retired", x, 1, 0, 1, 0, 0, NONE, 0, 1);
        jumps(x, 3, 3, 3);
        e.due("out by a refusal", x.back(4, 0), 3);
        rideIs(e, "out by a refusal", x, 1, 12, 1, 2, 2, NONE, 0, 3);
        jumps(x, 0, 0, 0, 1, 0);
        x.finish(4, 0, 121, NONE);
        e.due("out above the limit", x.ride(4, 0, 0), 3);
        e.due("finished above the limit", x.back(4, 0), 8);
        rideIs(e, "finished above the limit", x, 1, 16, 6, 2, 2, NONE, 0, 8);
        x.finish(4, 0, 1, NONE);
        e.due("finished", x.back(4, 0), 8);
        rideIs(e, "finished", x, 1, 16, 6, 2, 2, NONE, 0, 8);
        for (int events = 7; events >= 0; events--) {
            e.due("down to " + events, x.back(4, 0), events);
        }
        rideIs(e, "nothing is left", x, 1, 0, 0, 0, 0, NONE, 0, 0);

        e.promise(20, "RANGE; STATE: it has none; or k is 0 and RIDE 1 has begun.");
        e.due("it has none any more", x.back(4, 0), STATE);
        e.due("not begun", x.back(5, 0), STATE);
        e.due("not entered", x.back(0, 0), STATE);
        e.due("RIDE 1 not begun", x.back(4, 1), STATE);
        for (int[] rk : NO_RIDES) {
            e.due("back(" + rk[0] + ", " + rk[1] + ")", x.back(rk[0], rk[1]), RANGE);
        }
        x = jumped("");
        x.finish(4, 0, 1, NONE);
        x.begin(4, 1);
        e.due("RIDE 1 has begun", x.back(4, 0), STATE);
        e.due("RIDE 1 has none", x.back(4, 1), STATE);
        x.jump(4, 1, 1);
        e.due("RIDE 1", x.back(4, 1), 0);
        e.due("RIDE 1 has begun all the same", x.back(4, 0), STATE);
        rideIs(e, "RIDE 0 is as it was", x, 2, 0, NONE, 0, 0, 1, 0, 7);
    }

    private static void telling(Edges e) {
        e.promise(21, "what 0: 0 not begun, 1 on its way, 2 finished, 3 OUT;");
        JumpRing x = ring("");
        e.due("not begun", x.ride(4, 0, 0), 0);
        x.begin(4, 0);
        e.due("on its way", x.ride(4, 0, 0), 1);
        x.retire(4, 0);
        e.due("out", x.ride(4, 0, 0), 3);
        x.back(4, 0);
        jumps(x, 0, 0, 0, 0, 0, 0);
        e.due("ahead of the finish", x.ride(4, 0, 0), 1);
        x.finish(4, 0, 1, NONE);
        e.due("finished", x.ride(4, 0, 0), 2);

        e.promise(21, "2: the FENCE due (NONE when it isn't on its way)");
        e.due("finished", x.ride(4, 0, 2), NONE);
        x.back(4, 0);
        e.due("the finish is due", x.ride(4, 0, 2), 6);
        x.back(4, 0);
        e.due("the last fence is due", x.ride(4, 0, 2), 5);
        x.retire(4, 0);
        e.due("out", x.ride(4, 0, 2), NONE);

        e.promise(21, "5: TIME (NONE when not finished)");
        e.due("out", x.ride(4, 0, 5), NONE);
        x.back(4, 0);
        x.jump(4, 0, 0);
        e.due("on its way", x.ride(4, 0, 5), NONE);
        x.finish(4, 0, 0, NONE);
        e.due("finished in no time", x.ride(4, 0, 5), 0);
        x.back(4, 0);
        e.due("taken back", x.ride(4, 0, 5), NONE);

        e.promise(21, "NONE when it hasn't begun (but 0), or there is none such.");
        int[] whats = {1, 2, 3, 4, 5, 6, 7, 8, -1};
        int[] idle = {0, 5};
        for (int r : idle) {
            for (int what : whats) {
                e.due("not begun, " + what, x.ride(r, 0, what), NONE);
                e.due("RIDE 1 not begun, " + what, x.ride(r, 1, what), NONE);
            }
            e.due("not begun, 0", x.ride(r, 0, 0), 0);
            e.due("RIDE 1 not begun, 0", x.ride(r, 1, 0), 0);
        }
        for (int[] rk : NO_RIDES) {
            for (int what = 0; what < 8; what++) {
                e.due("ride(" + rk[0] + ", " + rk[1] + ", " + what + ")", x.ride(rk[0], rk[1], what), NONE);
            }
        }
        int[] noWhats = {-1, 8, Integer.MAX_VALUE, Integer.MIN_VALUE};
        for (int what : noWhats) {
            e.due("what " + what, x.ride(4, 0, what), NONE);
        }

        e.promise(21, "(One that finished above the limit is OUT; its TIME is told all the same.)");
        x.finish(4, 0, 241, NONE);
        rideIs(e, "above the limit", x, 3, 4, NONE, 0, 0, 241, 4, 7);
    }
}
