import java.util.Arrays;

/** Sentences about the tape, courses and laws: Terms I and II, promises 1 to 10. */
final class EdgeTexts {
    private static final int NONE = JumpRing.NONE;
    private static final int RANGE = JumpRing.RANGE;
    private static final int FULL = JumpRing.FULL;
    private static final int STATE = JumpRing.STATE;

    private static final String S = "start 0 0;";
    private static final String E = "finish 9 9;";
    private static final String F = "fence 1 1 high 50;";
    private static final String[] LINES = {"most 1 2;", "near 1 2;", "count 2 3;", "way 1;", "wheel 1;", "down 1;",
        "wet 1;", "refusal 1 2 3;", "fall 1;", "late 2 3;", "limit 101;", "stood 1;", "again none;",
        "watch lesser;", "team 1;"};
    private static final int[] FIRST_LAW = {0, 2, 4, 6, 7, 8, 9, 10, 13, 14, 16, 17, 18, 19, 20, 21};
    private static final int[] UNTOLD = {160, 200, 6, 12, 1, 20, 700, 350, 4, 4, 4, 8, NONE, NONE, 1, 4, 200, 6, 1, 0, 3};

    private EdgeTexts() {
    }

    static void hold(Edges e) {
        tape(e);
        tokens(e);
        courseBounds(e);
        obstacles(e);
        way(e);
        untoldLaws(e);
        lawBounds(e);
        faults(e);
        legalTerms(e);
        newObject(e);
        feeding(e);
        ending(e);
        courses(e);
        laws(e);
        faultAnswers(e);
        lawAnswers(e);
        aboutAndFence(e);
        legalAnswers(e);
    }

    private static String blanks(int many) {
        char[] row = new char[many];
        Arrays.fill(row, ' ');
        return new String(row);
    }

    private static JumpRing begun() {
        JumpRing x = new JumpRing();
        Check.course(x, 0, S + F + E);
        x.enter(7, true);
        x.begin(7, 0);
        return x;
    }

    private static void tape(Edges e) {
        e.terms("THE TAPE has at most 2000 bytes");
        JumpRing x = new JumpRing();
        Check.tape(x, blanks(1993) + "down 7;");
        e.due("2000 bytes", x.count(6), 2000);
        e.due("a text that ends with the 2000th", x.laws(), 1);
        e.due("its law", x.law(8), 7);
        Check.tape(x, "down 7" + blanks(1994));
        e.due("a text of 2000 that lacks its end", x.laws(), NONE);
        e.due("where it lacks it", x.fault(1), 2000);

        e.terms("each call that reads it empties it");
        Check.tape(x, "down 8;");
        for (int i = 0; i < 3; i++) {
            x.fault(0);
            x.law(8);
            x.about(0, 0);
            x.fence(0, 0, 0);
            x.legal(0);
            e.due("these read nothing", x.count(6), 7);
        }
        e.due("laws", x.laws(), 1);
        e.due("empty behind laws", x.count(6), 0);
        e.due("laws of the empty tape", x.laws(), 0);
        Check.tape(x, "down");
        e.due("laws with a fault", x.laws(), NONE);
        e.due("empty behind a fault of laws", x.count(6), 0);
        Check.tape(x, S + E);
        e.due("course", x.course(1), 0);
        e.due("empty behind course", x.count(6), 0);
        Check.tape(x, S);
        e.due("course with a fault", x.course(1), NONE);
        e.due("empty behind a fault of course", x.count(6), 0);
        e.due("course of the empty tape", x.course(1), NONE);
        e.due("what it lacks", x.fault(1), 0);
    }

    private static void tokens(Edges e) {
        e.terms("TOKENS with any blanks (32, 10) between");
        for (int b = 0; b < 256; b++) {
            String text = "down" + (char) b + "5;";
            if (b == ' ' || b == '\n' || b >= '0' && b <= '9') {
                e.lawsFault(text, 0, NONE);
            } else {
                e.lawsFault(text, 1, b >= 'a' && b <= 'z' ? 0 : 4);
            }
            boolean blank = b == ' ' || b == '\n';
            e.lawsFault("down 5;" + (char) b, blank ? 0 : 1, blank ? NONE : 7);
        }
        e.courseFault("start0 0;fence1 1high50wide0;fence1 1high50joined;water1 1wide0;finish0 0;", 0, NONE);
        e.courseFault("\n\n start \n 0\n0 ;\n finish\n0\n0\n;\n", 0, NONE);

        e.terms("WORDS (small letters, as many as there are)");
        e.lawsFault("downdown 5;", 1, 0);
        e.lawsFault("down5wet 5;", 1, 5);
        e.lawsFault("Down 5;", 1, 0);
        e.lawsFault("dOwn 5;", 1, 0);
        e.lawsFault("d own 5;", 1, 0);
        char[] long2000 = new char[2000];
        Arrays.fill(long2000, 'z');
        e.lawsFault(new String(long2000), 1, 0);

        e.terms("NUMBERS N (digits, as many as there are, 4 at most)");
        e.lawsFault("down 0999;", 0, NONE);
        e.lawsFault("down 9 9;", 1, 7);
        e.lawsFault("down 00999;", 1, 5);
        e.lawsFault("down 00000;", 1, 5);
        // 2 to the 32nd and 5: what an int makes of it would be within its bounds
        e.lawsFault("down 4294967301;", 1, 5);
        e.lawsFault("down 18446744073709551621;", 1, 5);
        Arrays.fill(long2000, '0');
        e.lawsFault("down " + new String(long2000, 0, 1995), 1, 5);
        JumpRing x = new JumpRing();
        Check.laws(x, "down 0007;wet 12;stood 345;");
        e.due("four digits", x.law(8), 7);
        e.due("two digits", x.law(9), 12);
        e.due("three digits", x.law(17), 345);
    }

    private static void courseBounds(Edges e) {
        e.terms("metres 0 .. 99 each way; high 50 .. 200, wide 0 .. 450 (centimetres; 0 without)");
        bound(e, "start ", " 0;" + E, 0, 99);
        bound(e, "start 0 ", ";" + E, 0, 99);
        bound(e, S + "finish ", " 0;", 0, 99);
        bound(e, S + "finish 0 ", ";", 0, 99);
        bound(e, S + "fence ", " 0 high 50;" + E, 0, 99);
        bound(e, S + "fence 0 ", " high 50;" + E, 0, 99);
        bound(e, S + "fence 0 0 high ", ";" + E, 50, 200);
        bound(e, S + "fence 0 0 high 50 wide ", ";" + E, 0, 450);
        bound(e, S + F + "fence 0 0 high 50 wide ", " joined;" + E, 0, 450);
        bound(e, S + "water ", " 0 wide 0;" + E, 0, 99);
        bound(e, S + "water 0 ", " wide 0;" + E, 0, 99);
        bound(e, S + "water 0 0 wide ", ";" + E, 0, 450);
        JumpRing x = new JumpRing();
        Check.course(x, 0, S + "fence 0 0 high 50 wide 450;fence 0 0 high 50;" + E);
        e.due("wide 450", x.fence(0, 0, 3), 450);
        e.due("without wide", x.fence(0, 1, 3), 0);

        e.terms("At most 20 FENCES, numbered from 0.");
        for (int many = 0; many <= 20; many++) {
            e.due(many + " fences", Check.course(x, 0, S + F.repeat(many) + E), many);
            e.due("the last of " + many, x.fence(0, many - 1, 2), many == 0 ? NONE : 50);
            e.due("behind the last of " + many, x.fence(0, many, 2), NONE);
        }
        e.due("21 fences", Check.course(x, 0, S + F.repeat(21) + E), NONE);
        e.due("the 20 stay", x.about(0, 0), 20);
    }

    private static void bound(Edges e, String ahead, String behind, int least, int most) {
        e.courseFault(ahead + least + behind, 0, NONE);
        e.courseFault(ahead + most + behind, 0, NONE);
        e.courseFault(ahead + (most + 1) + behind, 2, ahead.length());
        e.courseFault(ahead + "9999" + behind, 2, ahead.length());
        if (least > 0) {
            e.courseFault(ahead + (least - 1) + behind, 2, ahead.length());
            e.courseFault(ahead + "0" + behind, 2, ahead.length());
        } else {
            e.courseFault(ahead + "-1" + behind, 1, ahead.length());
        }
    }

    private static void obstacles(Edges e) {
        String joined = "fence 1 1 high 50 joined;";
        String water = "water 1 1 wide 0;";
        e.terms("One that is joined is a part of the OBSTACLE of the FENCE ahead"
                + " (not water, and none behind water, nor the first one);"
                + " each other one begins an OBSTACLE, numbered from 0.");
        e.courseFault(S + "fence 1 1 high 50 joined;" + E, 5, 28);
        e.courseFault(S + water + joined + E, 5, 45);
        e.courseFault(S + F + "water 1 1 wide 0 joined;" + E, 1, 45);
        e.courseFault(S + water + F + joined + E, 0, NONE);
        JumpRing x = new JumpRing();
        Check.course(x, 0, S + water + F + joined + joined + water + water + F + F + joined + E);
        int[] want = {0, 1, 1, 1, 2, 3, 4, 5, 5};
        for (int f = 0; f < want.length; f++) {
            e.due("obstacle of fence " + f, x.fence(0, f, 4), want[f]);
        }
        e.due("obstacles", x.about(0, 1), 6);
        Check.course(x, 0, S + F + joined.repeat(19) + E);
        e.due("20 parts of one", x.about(0, 1), 1);
        e.due("the last part", x.fence(0, 19, 4), 0);
        Check.course(x, 0, S + F.repeat(20) + E);
        e.due("20 of one part", x.about(0, 1), 20);
        e.due("the last one", x.fence(0, 19, 4), 19);
    }

    private static void way(Edges e) {
        e.terms("the distances in whole metres (the root of the sum of both squares, cut)");
        for (int dx = 0; dx <= 99; dx++) {
            JumpRing x = new JumpRing();
            for (int dy = 0; dy <= 99; dy++) {
                Check.course(x, 0, "start 0 " + dy + ";finish " + dx + " 0;");
                int way = x.about(0, 2);
                int square = dx * dx + dy * dy;
                boolean cut = way * way <= square && (way + 1) * (way + 1) > square;
                e.due("distance " + dx + ", " + dy + " of " + way, cut ? 1 : 0, 1);
            }
        }
        JumpRing x = new JumpRing();
        Check.course(x, 0, "start 0 0;fence 1 1 high 50;water 2 2 wide 0;finish 3 3;");
        e.due("each one is cut, not their sum", x.about(0, 2), 3);
    }

    private static void untoldLaws(Edges e) {
        e.terms("What a text doesn't tell is so: most 160 200, near 6 12, count 1 20, way 700, wheel 350, down 4,"
                + " wet 4, refusal 4 8, fall out, late 1 4, limit 200, stood 6, again first, watch first, team 3.");
        for (int line = 0; line < LINES.length; line++) {
            StringBuilder others = new StringBuilder();
            for (int i = 0; i < LINES.length; i++) {
                others.append(i == line ? "" : LINES[i]);
            }
            JumpRing x = new JumpRing();
            e.due("all but " + LINES[line], Check.laws(x, others.toString()), 14);
            for (int law = 0; law < UNTOLD.length; law++) {
                boolean untold = law >= FIRST_LAW[line] && law < FIRST_LAW[line + 1];
                e.due("law(" + law + ") without " + LINES[line], x.law(law) == UNTOLD[law] ? 1 : 0, untold ? 1 : 0);
            }
            e.due("it alone", Check.laws(x, LINES[line]), 1);
            for (int law = 0; law < UNTOLD.length; law++) {
                boolean told = law >= FIRST_LAW[line] && law < FIRST_LAW[line + 1];
                e.due("law(" + law + ") with " + LINES[line], x.law(law) == UNTOLD[law] ? 1 : 0, told ? 0 : 1);
            }
        }
    }

    private static void lawBounds(Edges e) {
        e.terms("Bounds of N: wheel 1 .. 999; the second of late 1 .. 99; limit 100 .. 999; team 1 .. 4;"
                + " all others 0 .. 999.");
        lawBound(e, "wheel ", "", 7, 1, 999);
        lawBound(e, "late 9 ", "", 15, 1, 99);
        lawBound(e, "limit ", "", 16, 100, 999);
        lawBound(e, "team ", "", 20, 1, 4);
        lawBound(e, "most ", " 9", 0, 0, 999);
        lawBound(e, "most 9 ", "", 1, 0, 999);
        lawBound(e, "near ", " 9", 2, 0, 999);
        lawBound(e, "near 9 ", "", 3, 0, 999);
        lawBound(e, "count ", " 9", 4, 0, 999);
        lawBound(e, "count 9 ", "", 5, 0, 999);
        lawBound(e, "way ", "", 6, 0, 999);
        lawBound(e, "down ", "", 8, 0, 999);
        lawBound(e, "wet ", "", 9, 0, 999);
        lawBound(e, "refusal ", " 9 9", 10, 0, 999);
        lawBound(e, "refusal 9 ", " 9", 11, 0, 999);
        lawBound(e, "refusal 9 9 ", "", 12, 0, 999);
        lawBound(e, "fall ", "", 13, 0, 999);
        lawBound(e, "late ", " 9", 14, 0, 999);
        lawBound(e, "stood ", "", 17, 0, 999);
    }

    private static void lawBound(Edges e, String ahead, String behind, int law, int least, int most) {
        JumpRing x = new JumpRing();
        e.due(ahead + least, Check.laws(x, ahead + least + behind + ";"), 1);
        e.due("law(" + law + ") of " + ahead + least, x.law(law), least);
        e.due(ahead + most, Check.laws(x, ahead + most + behind + ";"), 1);
        e.due("law(" + law + ") of " + ahead + most, x.law(law), most);
        e.lawsFault(ahead + (most + 1) + behind + ";", 2, ahead.length());
        if (least > 0) {
            e.lawsFault(ahead + (least - 1) + behind + ";", 2, ahead.length());
        }
    }

    private static void faults(Edges e) {
        e.terms("PLACE (a TOKEN's first byte; the text's length at its end)");
        e.lawsFault("   wrong", 1, 3);
        e.lawsFault("down   1000;", 2, 7);
        e.lawsFault("down 5;\n\ndown", 4, 9);
        e.lawsFault("down", 1, 4);
        e.lawsFault("down \n ", 1, 7);
        e.courseFault("", 1, 0);
        e.courseFault("  \n", 1, 3);
        e.courseFault(S + F, 1, S.length() + F.length());

        e.terms("the first come to as TOKENS are read one by one, of one TOKEN the least KIND");
        e.lawsFault("down 1000;wrong", 2, 5);
        e.lawsFault("wrong 1000;", 1, 0);
        e.lawsFault("down 5;down 1000;", 4, 7);
        e.lawsFault("down 5 1000;", 1, 7);
        e.lawsFault("down 5 down", 1, 7);
        e.lawsFault("down down", 1, 5);
        e.lawsFault("team 0 0;", 2, 5);
        e.courseFault("start 0 0 100;" + E, 1, 10);
        e.courseFault("start 100 100;" + E, 2, 6);
        e.courseFault(S + "water 1 1 wide 1 joined;" + E, 1, 27);
        e.courseFault(S + "fence 1 1 joined", 1, 20);
        e.courseFault(S + "fence 1 1 high 49 joined;" + E, 2, 25);
        e.courseFault(S + F.repeat(20) + "fence 1 1 high 50 wide 451 joined;" + E, 3, 370);
        e.courseFault(S + F.repeat(20) + "joined", 1, 370);

        e.terms("1 SYNTAX: a TOKEN (or byte that is none, a run that is too long) with which no text goes on.");
        e.lawsFault("5", 1, 0);
        e.lawsFault("down;", 1, 4);
        e.lawsFault("down 5.;", 1, 6);
        e.lawsFault("down 5," + "wet 5;", 1, 6);
        e.lawsFault("down 12345;", 1, 5);
        e.lawsFault("12345", 1, 0);
        e.courseFault(S + E + "12345", 1, 21);
        e.courseFault(S + E + "start", 1, 21);
        e.courseFault(S + "12345", 1, 10);

        e.terms("2 RANGE: an N out of its bounds.");
        e.lawsFault("team 5", 2, 5);
        e.lawsFault("team 4", 1, 6);
        e.courseFault("start 0 100", 2, 8);

        e.terms("3 ROOM: the 21st FENCE, at its first WORD.");
        e.courseFault(S + F.repeat(20) + "fence", 3, 370);
        e.courseFault(S + F.repeat(20) + "\n water", 3, 372);
        e.courseFault(S + F.repeat(19) + "fence", 1, 357);
        e.courseFault(S + F.repeat(20) + E, 0, NONE);

        e.terms("4 TWICE: a line's first WORD that was told already.");
        for (String line : LINES) {
            e.lawsFault(line + line, 4, line.length());
            e.lawsFault(line + "\n" + line.substring(0, line.indexOf(' ')), 4, line.length() + 1);
        }
        e.lawsFault("again first;watch first;", 0, NONE);
        e.lawsFault(String.join("", LINES), 0, NONE);
        e.lawsFault(String.join("", LINES) + LINES[0], 4, String.join("", LINES).length());
        JumpRing x = new JumpRing();
        Check.laws(x, "down 5;");
        e.due("in another text it is told anew", Check.laws(x, "down 6;"), 1);

        e.terms("5 JOINED: a joined that may not be (at it).");
        e.courseFault(S + "fence 1 1 high 50  joined", 5, 29);
        e.courseFault(S + "fence 1 1 high 50 wide 9 joined", 5, 35);
        e.courseFault(S + F + "water 1 1 wide 9;fence 1 1 high 50 joined", 5, 63);
    }

    private static void legal(Edges e, String fences, String laws, int want) {
        JumpRing x = new JumpRing();
        Check.course(x, 1, S + fences + E);
        Check.laws(x, laws);
        e.due("<" + fences + "> by <" + laws + ">", x.legal(1), want);
    }

    private static void legalTerms(Edges e) {
        String all = "fence 0 0 high 50;fence 1 0 high 50 joined;fence 2 0 high 50 joined;";
        e.terms("FENCE by FENCE: 1 higher than the first of most;");
        legal(e, "fence 1 1 high 160;", "", 0);
        legal(e, "fence 1 1 high 161;", "", 100);
        legal(e, "fence 1 1 high 200;", "most 200 0;", 0);
        legal(e, "fence 1 1 high 50;fence 1 1 high 51;", "most 50 0;", 101);
        legal(e, "water 1 1 wide 0;", "most 0 0;", 0);
        legal(e, "fence 1 1 high 50 wide 201;fence 1 1 high 161;", "", 200);

        e.terms("2 wider than the second (water isn't asked)");
        legal(e, "fence 1 1 high 50 wide 200;", "", 0);
        legal(e, "fence 1 1 high 50 wide 201;", "", 200);
        legal(e, "fence 1 1 high 50 wide 450;", "most 50 450;", 0);
        legal(e, "fence 1 1 high 50;", "most 50 0;", 0);
        legal(e, "fence 1 1 high 50 wide 1;", "most 50 0;", 200);
        legal(e, "fence 1 1 high 161 wide 201;", "", 100);
        legal(e, "water 1 1 wide 450;", "", 0);
        legal(e, "water 1 1 wide 450;fence 1 1 high 50 wide 201;", "", 201);

        e.terms("3 a joined one not near .. near metres behind the one ahead;");
        for (int metres = 0; metres <= 20; metres++) {
            String pair = "fence 0 0 high 50;fence " + metres + " 0 high 50 joined;";
            legal(e, pair, "", metres >= 6 && metres <= 12 ? 0 : 301);
            legal(e, pair, "near 0 0;", metres == 0 ? 0 : 301);
            legal(e, pair, "near 12 6;", 301);
        }
        legal(e, "fence 0 0 high 50;fence 0 0 high 50;", "", 0);
        legal(e, "water 0 0 wide 1;fence 0 0 high 50;", "", 0);
        legal(e, "fence 0 0 high 50;fence 0 0 high 50 wide 201 joined;", "", 201);

        e.terms("4 the fourth part of an OBSTACLE;");
        legal(e, all, "near 1 1;", 0);
        legal(e, all + "fence 3 0 high 50 joined;", "near 1 1;", 403);
        legal(e, all + "fence 3 0 high 50 joined;fence 4 0 high 161 joined;", "near 1 1;", 403);
        legal(e, all + "fence 5 0 high 50 joined;", "near 1 1;", 303);
        legal(e, all + "fence 3 0 high 50;fence 4 0 high 50 joined;fence 5 0 high 50 joined;", "near 1 1;", 0);
        legal(e, F + all + "fence 3 0 high 50 joined;", "near 1 1;", 404);

        e.terms("5 not count .. count OBSTACLES;");
        legal(e, "", "", 500);
        legal(e, "", "count 0 0;", 0);
        legal(e, F, "", 0);
        legal(e, F + F, "count 2 2;", 0);
        legal(e, F + F, "count 3 9;", 500);
        legal(e, F + F, "count 0 1;", 500);
        legal(e, F + F, "count 2 1;", 500);
        legal(e, all, "near 1 1;count 1 1;", 0);
        legal(e, F.repeat(20), "", 0);
        legal(e, F.repeat(20), "count 0 19;", 500);
        legal(e, F + "fence 1 1 high 161;", "count 9 9;", 101);

        e.terms("6 THE WAY above way.");
        legal(e, "", "count 0 0;way 12;", 0);
        legal(e, "", "count 0 0;way 11;", 600);
        legal(e, "", "count 1 1;way 11;", 500);
        legal(e, "fence 0 0 high 50;", "way 12;", 0);
        legal(e, "fence 0 0 high 50;", "way 0;", 600);
        allowed(e);
    }

    private static void allowed(Edges e) {
        e.terms("TIME ALLOWED: seconds in which THE WAY is ridden at wheel metres a minute, rounded up.");
        int[][] wayWheelTime = {{0, 1, 0}, {0, 999, 0}, {1, 60, 1}, {1, 61, 1}, {1, 59, 2}, {1, 999, 1}, {1, 1, 60},
            {99, 1, 5940}, {35, 350, 6}, {36, 350, 7}, {34, 350, 6}, {99, 999, 6}, {99, 990, 6}, {99, 991, 6}, {99, 989, 7}};
        for (int[] one : wayWheelTime) {
            JumpRing x = new JumpRing();
            Check.course(x, 0, "start 0 0;finish 0 " + one[0] + ";");
            Check.laws(x, "wheel " + one[1] + ";");
            e.due(one[0] + " metres at " + one[1], x.about(0, 3), one[2]);
        }
    }

    private static void newObject(Edges e) {
        e.promise(1, "No COURSES, LAWS as they are without a text, nobody entered.");
        JumpRing x = new JumpRing();
        for (int c = 0; c < 2; c++) {
            for (int what = 0; what < 4; what++) {
                e.due("about", x.about(c, what), NONE);
            }
            e.due("legal", x.legal(c), RANGE);
        }
        for (int law = 0; law < UNTOLD.length; law++) {
            e.due("law(" + law + ")", x.law(law), UNTOLD[law]);
        }
        for (int r = 0; r < 30; r++) {
            e.due("place(" + r + ")", x.place(r), RANGE);
            e.due("ride(" + r + ")", x.ride(r, 0, 0), 0);
        }
        for (int what = 0; what <= 6; what++) {
            e.due("count(" + what + ")", x.count(what), 0);
        }
        JumpRing other = new JumpRing();
        Check.course(other, 0, S + E);
        Check.laws(other, "down 9;");
        other.enter(0, true);
        e.due("two objects share nothing: course", x.about(0, 0), NONE);
        e.due("two objects share nothing: laws", x.law(8), 4);
        e.due("two objects share nothing: laws of a third", new JumpRing().law(8), 4);
        e.due("two objects share nothing: riders", x.count(0), 0);
    }

    private static void feeding(Edges e) {
        e.promise(2, "Twenty bytes come behind THE TAPE, the highest of each int first: how many it has;");
        JumpRing x = new JumpRing();
        // "down", " 5;w", "et 6", ";way", " 7; "
        e.due("20", x.feed(0x646f776e, 0x20353b77, 0x65742036, 0x3b776179, 0x20373b20), 20);
        e.due("40", x.feed(0x20202020, 0x20202020, 0x20202020, 0x20202020, 0x2020200a), 40);
        e.due("lines", x.laws(), 3);
        e.due("down", x.law(8), 5);
        e.due("wet", x.law(9), 6);
        e.due("way", x.law(6), 7);
        x.feed(0x646f776e, 0x20390000, 0, 0, 0);
        x.end(6);
        e.due("behind what is there", x.feed(0x393b2020, 0x20202020, 0x20202020, 0x20202020, 0x20202020), 26);
        e.due("one text", x.laws(), 1);
        e.due("of both feeds", x.law(8), 99);
        e.due("the highest byte has no sign", x.feed(0xe9202020, -1, -1, -1, -1), 20);
        e.due("and is no token", x.laws(), NONE);

        e.promise(2, "FULL when there would be more than 2000.");
        x = new JumpRing();
        for (int i = 1; i <= 100; i++) {
            e.due("feed " + i, x.feed(0x20202020, 0x20202020, 0x20202020, 0x20202020, 0x20202020), 20 * i);
        }
        e.due("behind 2000", x.feed(0, 0, 0, 0, 0), FULL);
        e.due("it has 2000", x.count(6), 2000);
        for (int n = 1999; n > 1980; n--) {
            e.due("end " + n, x.end(n), n);
            e.due("behind " + n, x.feed(0, 0, 0, 0, 0), FULL);
            e.due("it has " + n, x.count(6), n);
        }
        e.due("its bytes stay", x.laws(), 0);
        e.due("no fault in them", x.fault(0), 0);
        for (int i = 0; i < 100; i++) {
            x.feed(0, 0, 0, 0, 0);
        }
        x.end(1980);
        e.due("behind 1980", x.feed(0, 0, 0, 0, 0), 2000);
        x.end(1);
        e.due("behind 1", x.feed(0, 0, 0, 0, 0), 21);
    }

    private static void ending(Edges e) {
        e.promise(3, "THE TAPE has its first n bytes alone: n;");
        JumpRing x = new JumpRing();
        Check.tape(x, "down 5;wet 6;");
        e.due("end(7)", x.end(7), 7);
        e.due("it has 7", x.count(6), 7);
        e.due("one line", x.laws(), 1);
        e.due("down", x.law(8), 5);
        e.due("wet is untold", x.law(9), 4);
        Check.tape(x, "down 5;wet 6;");
        e.due("all of it", x.end(13), 13);
        e.due("both lines", x.laws(), 2);
        Check.tape(x, "down 5;");
        e.due("nothing of it", x.end(0), 0);
        e.due("no line", x.laws(), 0);
        e.due("end(0) of nothing", x.end(0), 0);

        e.promise(3, "NONE when it has not so many, or n is below 0.");
        int[] none = {1, 20, 2000, Integer.MAX_VALUE, -1, Integer.MIN_VALUE};
        for (int n : none) {
            e.due("end(" + n + ") of nothing", x.end(n), NONE);
        }
        Check.tape(x, "down 5;");
        int[] noneOf7 = {8, 20, Integer.MAX_VALUE, -1, -7, Integer.MIN_VALUE};
        for (int n : noneOf7) {
            e.due("end(" + n + ") of 7", x.end(n), NONE);
            e.due("it has 7 still", x.count(6), 7);
        }
        e.due("its bytes stay", x.laws(), 1);
        e.due("down", x.law(8), 5);
    }

    private static void courses(Edges e) {
        e.promise(4, "how many FENCES;");
        JumpRing x = new JumpRing();
        e.due("none", Check.course(x, 0, S + E), 0);
        e.due("one", Check.course(x, 0, S + F + E), 1);
        e.due("twenty", Check.course(x, 1, S + F.repeat(20) + E), 20);
        e.due("told anew", Check.course(x, 1, S + F + F + E), 2);
        e.due("nothing of the former is left", x.fence(1, 2, 0), NONE);
        e.due("the other one is as it was", x.about(0, 0), 1);

        e.promise(4, "RANGE: no such COURSE;");
        int[] none = {-1, 2, Integer.MAX_VALUE, Integer.MIN_VALUE};
        Check.tape(x, S + E);
        for (int c : none) {
            e.due("course(" + c + ")", x.course(c), RANGE);
        }
        e.due("the tape was not read", x.count(6), 21);
        JumpRing y = begun();
        for (int c : none) {
            e.due("course(" + c + ") when a ride has begun", y.course(c), RANGE);
        }

        e.promise(4, "STATE: some RIDE has begun;");
        Check.tape(y, S + E);
        e.due("course 0", y.course(0), STATE);
        e.due("course 1, over which none has", y.course(1), STATE);
        e.due("course 0 stays", y.about(0, 0), 1);
        e.due("course 1 is untold", y.about(1, 0), NONE);
        e.due("the tape was not read", y.count(6), 21);
        y.retire(7, 0);
        e.due("out", y.course(0), STATE);
        y.back(7, 0);
        e.due("without events", y.course(0), STATE);
        JumpRing entered = new JumpRing();
        entered.enter(0, true);
        e.due("entered alone", Check.course(entered, 0, S + E), 0);

        e.promise(4, "NONE with a FAULT (the COURSE stays).");
        e.due("a fault at the end", Check.course(x, 1, S + "fence 7 7 high 70;" + E + E), NONE);
        e.due("its fences stay", x.about(1, 0), 2);
        e.due("where they were", x.fence(1, 0, 0), 1);
        e.due("THE WAY stays", x.about(1, 2), 12);
        JumpRing untold = new JumpRing();
        e.due("a fault of the first one", Check.course(untold, 0, S), NONE);
        e.due("none is told", untold.about(0, 0), NONE);
        e.due("and none can be ridden", untold.enter(0, true) + untold.begin(0, 0), 1 + STATE);
    }

    private static void laws(Edges e) {
        e.promise(5, "how many lines; STATE; NONE with a FAULT (the LAWS stay).");
        JumpRing x = new JumpRing();
        e.due("no line", Check.laws(x, ""), 0);
        e.due("blanks", Check.laws(x, "\n \n"), 0);
        e.due("one line", Check.laws(x, "down 5;"), 1);
        e.due("all lines", Check.laws(x, String.join("", LINES)), 15);
        e.due("a fault at the end", Check.laws(x, "down 7;most 9 9;wet"), NONE);
        e.due("down stays", x.law(8), 1);
        e.due("most stays", x.law(0), 1);
        e.due("wet stays", x.law(9), 1);
        e.due("what the text lacks stays", x.law(20), 1);
        JumpRing y = begun();
        Check.tape(y, "down 7;");
        e.due("when a ride has begun", y.laws(), STATE);
        e.due("down is as it was", y.law(8), 4);
        e.due("the tape was not read", y.count(6), 7);
        y.retire(7, 0);
        e.due("when it is out", y.laws(), STATE);
    }

    private static void faultAnswers(Edges e) {
        e.promise(6, "Of the latest course() or laws() that was neither RANGE nor STATE, what 0: its FAULT's KIND,"
                + " 0 without (and ahead of any), 1: its PLACE (NONE).");
        JumpRing x = new JumpRing();
        e.due("KIND ahead of any", x.fault(0), 0);
        e.due("PLACE ahead of any", x.fault(1), NONE);
        x.course(2);
        e.due("KIND behind RANGE alone", x.fault(0), 0);
        e.due("PLACE behind RANGE alone", x.fault(1), NONE);
        Check.course(x, 0, S + "fence 1 1 high 50 joined;");
        e.due("KIND of a course", x.fault(0), 5);
        e.due("PLACE of a course", x.fault(1), 28);
        x.course(-1);
        e.due("KIND behind RANGE", x.fault(0), 5);
        e.due("PLACE behind RANGE", x.fault(1), 28);
        Check.laws(x, "wet 5;wet");
        e.due("KIND of laws", x.fault(0), 4);
        e.due("PLACE of laws", x.fault(1), 6);
        Check.course(x, 0, S + E);
        e.due("KIND without", x.fault(0), 0);
        e.due("PLACE without", x.fault(1), NONE);
        Check.laws(x, "wrong");
        e.due("KIND 1", x.fault(0), 1);
        e.due("PLACE 0", x.fault(1), 0);
        x.enter(0, true);
        x.begin(0, 0);
        e.due("STATE", x.laws(), STATE);
        e.due("STATE of course", x.course(0), STATE);
        e.due("KIND behind STATE", x.fault(0), 1);
        e.due("PLACE behind STATE", x.fault(1), 0);

        e.promise(6, "NONE for another what.");
        int[] none = {-1, 2, Integer.MAX_VALUE, Integer.MIN_VALUE};
        for (int what : none) {
            e.due("fault(" + what + ")", x.fault(what), NONE);
        }
    }

    private static void lawAnswers(Edges e) {
        e.promise(7, "10, 11, 12 refusal (NONE: out), 13 fall (NONE: out)");
        String[] refusals = {"refusal 0;", "refusal 0 0;", "refusal 0 0 0;"};
        for (int n = 1; n <= 3; n++) {
            JumpRing x = new JumpRing();
            Check.laws(x, refusals[n - 1]);
            for (int i = 0; i < 3; i++) {
                e.due(refusals[n - 1] + " law(" + (10 + i) + ")", x.law(10 + i), i < n ? 0 : NONE);
            }
        }
        JumpRing x = new JumpRing();
        Check.laws(x, "fall 0;");
        e.due("fall 0", x.law(13), 0);
        Check.laws(x, "fall out;");
        e.due("fall out", x.law(13), NONE);

        e.promise(7, "18 again (1 first), 19 watch (0 first, 1 lesser, 2 greater), 20 team. -9 for another what.");
        Check.laws(x, "again none;watch lesser;team 4;");
        e.due("again none", x.law(18), 0);
        e.due("watch lesser", x.law(19), 1);
        e.due("team 4", x.law(20), 4);
        Check.laws(x, "again first;watch greater;team 1;");
        e.due("again first", x.law(18), 1);
        e.due("watch greater", x.law(19), 2);
        e.due("team 1", x.law(20), 1);
        Check.laws(x, "watch first;");
        e.due("watch first", x.law(19), 0);
        int[] none = {-1, 21, 22, Integer.MAX_VALUE, Integer.MIN_VALUE};
        for (int what : none) {
            e.due("law(" + what + ")", x.law(what), -9);
        }
    }

    private static void aboutAndFence(Edges e) {
        JumpRing x = new JumpRing();
        Check.course(x, 0, S + F + "water 2 2 wide 3;" + E);
        int[] noCourse = {-1, 1, 2, Integer.MAX_VALUE, Integer.MIN_VALUE};
        e.promise(8, "NONE: no such, or none was told.");
        for (int c : noCourse) {
            for (int what = 0; what < 4; what++) {
                e.due("about(" + c + ", " + what + ")", x.about(c, what), NONE);
            }
        }
        int[] noWhat = {-1, 4, Integer.MAX_VALUE, Integer.MIN_VALUE};
        for (int what : noWhat) {
            e.due("about(0, " + what + ")", x.about(0, what), NONE);
        }
        e.promise(9, "2: high (0 of water)");
        e.due("high", x.fence(0, 0, 2), 50);
        e.due("of water", x.fence(0, 1, 2), 0);
        e.promise(9, "5: 1 if it is water, else 0.");
        e.due("a fence", x.fence(0, 0, 5), 0);
        e.due("water", x.fence(0, 1, 5), 1);
        e.promise(9, "NONE when there is none such.");
        for (int c : noCourse) {
            e.due("fence of course " + c, x.fence(c, 0, 0), NONE);
        }
        int[] noFence = {-1, 2, 19, 20, 21, Integer.MAX_VALUE, Integer.MIN_VALUE};
        for (int f : noFence) {
            e.due("fence " + f, x.fence(0, f, 0), NONE);
        }
        int[] noWhatOfFence = {-1, 6, Integer.MAX_VALUE, Integer.MIN_VALUE};
        for (int what : noWhatOfFence) {
            e.due("fence what " + what, x.fence(0, 0, what), NONE);
        }
        Check.course(x, 0, S + E);
        e.due("the first of a course without any", x.fence(0, 0, 0), NONE);
    }

    private static void legalAnswers(Edges e) {
        e.promise(10, "0: COURSE c is LEGAL; 100 times what is wrong first, and its FENCE (of 5, 6: 0);");
        legal(e, F, "", 0);
        legal(e, F.repeat(19) + "fence 1 1 high 161;", "", 119);
        legal(e, F.repeat(19) + "fence 1 1 high 50 wide 201;", "", 219);
        legal(e, F.repeat(19) + "fence 1 1 high 50 joined;", "", 319);
        legal(e, F.repeat(16) + F + "fence 1 1 high 50 joined;".repeat(3), "near 0 0;", 419);
        legal(e, F.repeat(3), "count 4 4;", 500);
        legal(e, F.repeat(3), "way 0;", 600);
        e.promise(10, "RANGE: no such, or none was told.");
        JumpRing x = new JumpRing();
        Check.course(x, 0, S + F + E);
        int[] none = {-1, 1, 2, Integer.MAX_VALUE, Integer.MIN_VALUE};
        for (int c : none) {
            e.due("legal(" + c + ")", x.legal(c), RANGE);
        }
        Check.course(x, 1, S);
        e.due("one with a fault was not told", x.legal(1), RANGE);
    }
}
