/** Promises 4, 6, 8, 9: course, fault, about, fence. */
public final class CourseTest {
    private static final String S = "start 0 0;";
    private static final String E = "finish 9 9;";

    public static void main(String[] args) {
        Check t = new Check("CourseTest");
        answers(t);
        blanks(t);
        way(t);
        obstacles(t);
        syntax(t);
        bounds(t);
        room(t);
        joined(t);
        faultsKept(t);
        states(t);
        t.close();
    }

    private static void answers(Check t) {
        JumpRing x = new JumpRing();
        t.due("course", Check.course(x, 1,
                "start 1 2;fence 3 4 high 50;fence 99 0 high 200 wide 450;water 5 6 wide 0;finish 7 8;"), 3);
        int[][] want = {{3, 4, 50, 0, 0, 0}, {99, 0, 200, 450, 1, 0}, {5, 6, 0, 0, 2, 1}};
        for (int f = 0; f < 3; f++) {
            for (int what = 0; what < 6; what++) {
                t.due("fence(1, " + f + ", " + what + ")", x.fence(1, f, what), want[f][what]);
            }
            t.due("fence what 6", x.fence(1, f, 6), Check.NONE);
            t.due("fence what -1", x.fence(1, f, -1), Check.NONE);
        }
        int[] none = {-1, 3, 20, Integer.MAX_VALUE, Integer.MIN_VALUE};
        for (int f : none) {
            t.due("fence(1, " + f + ", 0)", x.fence(1, f, 0), Check.NONE);
        }
        t.due("fence of a course untold", x.fence(0, 0, 0), Check.NONE);
        t.due("fence(2)", x.fence(2, 0, 0), Check.NONE);
        t.due("fence(-1)", x.fence(-1, 0, 0), Check.NONE);
        t.due("about(0)", x.about(0, 0), Check.NONE);
        t.due("about(2)", x.about(2, 0), Check.NONE);
        t.due("about(-1)", x.about(-1, 0), Check.NONE);
        t.due("about what 4", x.about(1, 4), Check.NONE);
        t.due("about what -1", x.about(1, -1), Check.NONE);
        t.due("about(1, 0)", x.about(1, 0), 3);
        t.due("about(1, 1)", x.about(1, 1), 3);
        // 2, 96, 94, 2 metres
        t.due("about(1, 2)", x.about(1, 2), 194);
        t.due("told anew", Check.course(x, 1, S + E), 0);
        t.due("about(1, 0) anew", x.about(1, 0), 0);
        t.due("about(1, 1) anew", x.about(1, 1), 0);
        t.due("fence anew", x.fence(1, 0, 0), Check.NONE);
        t.due("the other course", x.about(0, 0), Check.NONE);
    }

    private static void blanks(Check t) {
        t.courseFault("start0 0;fence1 1high50wide1;fence1 1high50wide1joined;finish1 1;", 0, Check.NONE);
        t.courseFault("\n  start\n0 \n 0\n;\n\nfinish 1\n1 ; \n ", 0, Check.NONE);
        t.courseFault("start 0 0;finish 0001 0099;", 0, Check.NONE);
        t.courseFault("start\t0 0;finish 1 1;", 1, 5);
        t.courseFault("start 0 0;\rfinish 1 1;", 1, 10);
        t.courseFault("start 0 0;finish 1 1;\0", 1, 21);
    }

    private static void way(Check t) {
        JumpRing x = new JumpRing();
        Check.course(x, 0, "start 0 0;finish 99 99;");
        t.due("the longest cut", x.about(0, 2), 140);
        Check.course(x, 0, "start 0 0;finish 0 0;");
        t.due("no way", x.about(0, 2), 0);
        t.due("no time", x.about(0, 3), 0);
        Check.course(x, 0, "start 0 0;fence 1 1 high 50;fence 2 2 high 50;finish 3 3;");
        t.due("each distance is cut", x.about(0, 2), 3);
        Check.course(x, 0, "start 50 50;fence 47 46 high 50;finish 47 47;");
        t.due("3 4 5", x.about(0, 2), 6);
        StringBuilder text = new StringBuilder("start 99 99;");
        for (int f = 0; f < 20; f++) {
            text.append(f % 2 == 0 ? "fence 0 0 high 50;" : "fence 99 99 high 50;");
        }
        t.due("20 fences", Check.course(x, 0, text + "finish 0 0;"), 20);
        t.due("the longest way", x.about(0, 2), 21 * 140);
        Check.laws(x, "wheel 1;");
        t.due("the longest time", x.about(0, 3), 21 * 140 * 60);
        Check.laws(x, "wheel 999;");
        t.due("rounded up", x.about(0, 3), 177);
        Check.laws(x, "wheel 980;");
        t.due("nothing to round", x.about(0, 3), 180);
    }

    private static void obstacles(Check t) {
        JumpRing x = new JumpRing();
        Check.course(x, 0, S + "fence 1 0 high 50;fence 2 0 high 50 joined;fence 3 0 high 60 wide 7 joined;"
                + "fence 4 0 high 50 joined;water 5 0 wide 9;fence 6 0 high 50;fence 7 0 high 50 joined;"
                + "water 8 0 wide 1;water 9 0 wide 1;" + E);
        int[] of = {0, 0, 0, 0, 1, 2, 2, 3, 4};
        for (int f = 0; f < of.length; f++) {
            t.due("obstacle of " + f, x.fence(0, f, 4), of[f]);
        }
        t.due("obstacles", x.about(0, 1), 5);
        t.due("fences", x.about(0, 0), 9);
        t.due("wide of a joined one", x.fence(0, 2, 3), 7);
    }

    private static void syntax(Check t) {
        String[] cutShort = {"", "   ", "start", "start 0", "start 0 0", S, S + "fence", S + "water 1 1 wide"};
        for (String text : cutShort) {
            t.courseFault(text, 1, text.length());
        }
        t.courseFault("begin 0 0;", 1, 0);
        t.courseFault("starts 0 0;", 1, 0);
        t.courseFault("star 0 0;", 1, 0);
        t.courseFault("xtart 0 0;", 1, 0);
        t.courseFault("starx 0 0;", 1, 0);
        t.courseFault("startz 0 0;", 1, 0);
        t.courseFault("starta 0 0;", 1, 0);
        t.courseFault("start`0 0;", 1, 5);
        t.courseFault("start{0 0;", 1, 5);
        t.courseFault("start 0/0;", 1, 7);
        t.courseFault("start 0:0;", 1, 7);
        t.courseFault("Start 0 0;", 1, 0);
        t.courseFault("start 0;" + E, 1, 7);
        t.courseFault("start 0 0 0;" + E, 1, 10);
        t.courseFault("start 0 00000;" + E, 1, 8);
        t.courseFault("start 0 -1;" + E, 1, 8);
        t.courseFault("start 0 0 finish 1 1;", 1, 10);
        t.courseFault(S + ";" + E, 1, 10);
        t.courseFault(S + "high 50;" + E, 1, 10);
        t.courseFault(S + "start 0 0;" + E, 1, 10);
        t.courseFault(S + "fence 1 1;" + E, 1, 19);
        t.courseFault(S + "fence 1 1 wide 50;" + E, 1, 20);
        t.courseFault(S + "fence 1 1 high;" + E, 1, 24);
        t.courseFault(S + "fence 1 1 high 50 wide;" + E, 1, 32);
        t.courseFault(S + "fence 1 1 high 50 wide 5 wide 5;" + E, 1, 35);
        t.courseFault(S + "fence 1 1 high 50 high 50;" + E, 1, 28);
        t.courseFault(S + "fence 1 1 high 50" + E, 1, 27);
        t.courseFault(S + "water 1 1;" + E, 1, 19);
        t.courseFault(S + "water 1 1 high 50;" + E, 1, 20);
        t.courseFault(S + "water 1 1 wide 50 high 50;" + E, 1, 28);
        t.courseFault(S + "fence 1 1 high 50;water 1 1 wide 50 joined;" + E, 1, 46);
        t.courseFault(S + "fence 1 1 high 50;fence 1 1 high 50 joined wide 5;" + E, 1, 53);
        t.courseFault(S + "fence 1 1 high 50;fence 1 1 high 50 joined joined;" + E, 1, 53);
        t.courseFault(S + "finish 1 1", 1, 20);
        t.courseFault(S + "finish 1 1 ", 1, 21);
        t.courseFault(S + E + E, 1, 21);
        t.courseFault(S + E + ";", 1, 21);
        t.courseFault(S + E + " 5", 1, 22);
        t.courseFault(S + E + "fence 1 1 high 50;", 1, 21);
        t.courseFault(S + "finish 1.1;", 1, 18);
        t.courseFault(S + "fenceX", 1, 15);
        t.courseFault(S + "fence 12345 1 high 50;", 1, 16);
    }

    private static void bounds(Check t) {
        t.courseFault("start 100 0;", 2, 6);
        t.courseFault("start 0 100;", 2, 8);
        t.courseFault("start 0 9999;", 2, 8);
        t.courseFault("start 99 99;finish 99 100;", 2, 22);
        t.courseFault("start 99 99;finish 100 99;", 2, 19);
        t.courseFault("start 99 99;finish 99 99;", 0, Check.NONE);
        t.courseFault(S + "fence 100 0 high 50;", 2, 16);
        t.courseFault(S + "fence 0 100 high 50;", 2, 18);
        t.courseFault(S + "fence 0 0 high 49;", 2, 25);
        t.courseFault(S + "fence 0 0 high 201;", 2, 25);
        t.courseFault(S + "fence 0 0 high 50 wide 451;", 2, 33);
        t.courseFault(S + "fence 0 0 high 200 wide 450;" + E, 0, Check.NONE);
        t.courseFault(S + "fence 0 0 high 50 wide 0;" + E, 0, Check.NONE);
        t.courseFault(S + "water 0 0 wide 450;" + E, 0, Check.NONE);
        t.courseFault(S + "water 0 0 wide 451;" + E, 2, 25);
        t.courseFault(S + "water 100 0 wide 1;" + E, 2, 16);
        t.courseFault(S + "water 0 100 wide 1;" + E, 2, 18);
        // the first come to
        t.courseFault("start 100 x", 2, 6);
        t.courseFault("start x 100", 1, 6);
    }

    private static void room(Check t) {
        StringBuilder twenty = new StringBuilder(S);
        for (int f = 0; f < 20; f++) {
            twenty.append("water 1 1 wide 1;");
        }
        t.courseFault(twenty + E, 0, Check.NONE);
        t.courseFault(twenty + "water 1 1 wide 1;" + E, 3, twenty.length());
        t.courseFault(twenty + " fence", 3, twenty.length() + 1);
        t.courseFault(twenty + "fence 100", 3, twenty.length());
        t.courseFault(twenty + "fences", 1, twenty.length());
        t.courseFault(twenty + "high", 1, twenty.length());
    }

    private static void joined(Check t) {
        t.courseFault(S + "fence 1 1 high 50 joined;" + E, 5, 28);
        t.courseFault(S + "fence 1 1 high 50 wide 1 joined;" + E, 5, 35);
        t.courseFault(S + "water 1 1 wide 1;fence 1 1 high 50 joined;" + E, 5, 45);
        t.courseFault(S + "fence 1 1 high 50;water 1 1 wide 1;fence 1 1 high 50 joined;" + E, 5, 63);
        t.courseFault(S + "water 1 1 wide 1;fence 1 1 high 50;fence 1 1 high 50 joined;" + E, 0, Check.NONE);
        t.courseFault(S + "fence 1 1 high 50;fence 1 1 high 50 joined;fence 1 1 high 50 wide 3 joined;" + E,
                0, Check.NONE);
    }

    private static void faultsKept(Check t) {
        JumpRing x = new JumpRing();
        Check.course(x, 0, S + "fence 1 1 high 50;" + E);
        Check.course(x, 0, S + "fence 1 1 high 60;fence 2 2 high 300;");
        t.due("fault(0)", x.fault(0), 2);
        t.due("fault(1)", x.fault(1), 43);
        t.due("fault(2)", x.fault(2), Check.NONE);
        t.due("fault(-1)", x.fault(-1), Check.NONE);
        t.due("the course stays", x.about(0, 0), 1);
        t.due("its fence stays", x.fence(0, 0, 2), 50);
        t.due("course(2)", x.course(2), Check.RANGE);
        t.due("fault(0) behind RANGE", x.fault(0), 2);
        t.due("fault(1) behind RANGE", x.fault(1), 43);
        Check.laws(x, "");
        t.due("fault(0) behind laws", x.fault(0), 0);
        t.due("fault(1) behind laws", x.fault(1), Check.NONE);
        Check.laws(x, "down 1;;");
        t.due("fault(1) of laws", x.fault(1), 7);
        x.enter(1, true);
        x.begin(1, 0);
        t.due("laws when begun", x.laws(), Check.STATE);
        t.due("fault(0) behind STATE", x.fault(0), 1);
        t.due("fault(1) behind STATE", x.fault(1), 7);
    }

    private static void states(Check t) {
        JumpRing x = new JumpRing();
        Check.course(x, 0, S + E);
        x.enter(29, true);
        t.due("course when entered", Check.course(x, 0, S + "water 0 0 wide 1;" + E), 1);
        x.begin(29, 0);
        t.due("course 0 when begun", Check.course(x, 0, S + E), Check.STATE);
        t.due("course 1 when begun", Check.course(x, 1, S + E), Check.STATE);
        t.due("course stays", x.about(0, 0), 1);
        x.retire(29, 0);
        x.back(29, 0);
        t.due("a ride without events has begun too", x.course(1), Check.STATE);
    }
}
