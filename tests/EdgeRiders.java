/** Sentences about riders, teams and lots: parts of Terms III and IV, promises 11 to 14. */
final class EdgeRiders {
    private static final int NONE = JumpRing.NONE;
    private static final int RANGE = JumpRing.RANGE;
    private static final int FULL = JumpRing.FULL;
    private static final int STATE = JumpRing.STATE;
    private static final int[] NO_RIDERS = {-1, 30, 31, Integer.MAX_VALUE, Integer.MIN_VALUE};

    private EdgeRiders() {
    }

    static void hold(Edges e) {
        riders(e);
        entering(e);
        teams(e);
        orders(e);
        lots(e);
    }

    private static JumpRing entered(int many) {
        JumpRing x = new JumpRing();
        Check.course(x, 0, "start 0 0;fence 1 1 high 50;finish 2 2;");
        Check.course(x, 1, "start 0 0;finish 2 2;");
        for (int r = 0; r < many; r++) {
            x.enter(r, true);
        }
        return x;
    }

    private static void riders(Edges e) {
        e.terms("RIDERS 0 .. 29, entered (or not)");
        JumpRing x = entered(0);
        for (int r = 0; r < 30; r++) {
            e.due("enter(" + r + ")", x.enter(r, true), 1);
            e.due("so many are entered", x.count(0), r + 1);
        }
        for (int r : NO_RIDERS) {
            e.due("enter(" + r + ")", x.enter(r, true), RANGE);
        }
        for (int r = 0; r < 30; r++) {
            e.due("begin(" + r + ")", x.begin(r, 0), 1);
        }
        e.due("all have begun", x.count(1), 30);
        e.due("all are entered", x.count(0), 30);

        e.terms("each once in a RIDE 0 (over COURSE 0) and a RIDE 1 (the JUMP OFF, over COURSE 1)");
        e.due("a second RIDE 0", x.begin(29, 0), STATE);
        e.due("over COURSE 0", x.jump(29, 0, 0), 1);
        e.due("finish", x.finish(29, 0, 1, NONE), 1);
        e.due("a second RIDE 0 behind the finish", x.begin(29, 0), STATE);
        e.due("RIDE 1", x.begin(29, 1), 1);
        e.due("a second RIDE 1", x.begin(29, 1), STATE);
        e.due("over COURSE 1", x.jump(29, 1, 0), STATE);
        e.due("finish of RIDE 1", x.finish(29, 1, 2, NONE), 2);
        e.due("a third RIDE", x.begin(29, 2), RANGE);
    }

    private static void entering(Edges e) {
        e.promise(11, "A RIDER is entered, or not any more: 1 if it was otherwise, else 0; RANGE;");
        JumpRing x = entered(0);
        int[] ends = {0, 29};
        for (int r : ends) {
            e.due("off, who was not on", x.enter(r, false), 0);
            e.due("on", x.enter(r, true), 1);
            e.due("on again", x.enter(r, true), 0);
            e.due("off", x.enter(r, false), 1);
            e.due("off again", x.enter(r, false), 0);
        }
        for (int r : NO_RIDERS) {
            e.due("on, " + r, x.enter(r, true), RANGE);
            e.due("off, " + r, x.enter(r, false), RANGE);
        }
        e.due("nobody is entered", x.count(0), 0);

        e.promise(11, "STATE: it has begun a RIDE.");
        x = entered(2);
        x.begin(0, 0);
        e.due("off when begun", x.enter(0, false), STATE);
        e.due("on when begun", x.enter(0, true), STATE);
        e.due("another one", x.enter(1, false), 1);
        x.retire(0, 0);
        e.due("off when out", x.enter(0, false), STATE);
        x.back(0, 0);
        e.due("off without events", x.enter(0, false), STATE);
        x.jump(0, 0, 0);
        x.finish(0, 0, 1, 1);
        e.due("off when finished", x.enter(0, false), STATE);
        x.begin(0, 1);
        e.due("off in RIDE 1", x.enter(0, false), STATE);
        e.due("entered still", x.count(0), 1);

        e.promise(11, "(Who is none any more is in no TEAM.)");
        x = entered(5);
        for (int r = 0; r < 4; r++) {
            x.team(r, 3);
        }
        x.enter(2, false);
        e.due("three are left", x.teamed(3, 0), 3);
        e.due("who isn't entered has no team to tell", x.team(2, 3), RANGE);
        e.due("its room is free", x.team(4, 3), NONE);
        x.enter(2, true);
        e.due("of no team when entered again", x.team(2, NONE), NONE);
        e.due("four are there", x.teamed(3, 0), 4);
        x.enter(2, true);
        x.team(2, 6);
        x.enter(2, true);
        e.due("entered again without a change: its team stays", x.team(2, 6), 6);
    }

    private static void teams(Edges e) {
        e.terms("TEAMS 0 .. 6 of at most four RIDERS, each in one TEAM at most");
        JumpRing x = entered(30);
        for (int t = 0; t < 7; t++) {
            for (int i = 0; i < 4; i++) {
                e.due("rider " + (4 * t + i) + " into " + t, x.team(4 * t + i, t), NONE);
            }
            e.due("a fifth into " + t, x.team(29, t), FULL);
            e.due("four in " + t, x.teamed(t, 0), 4);
        }
        x.team(0, NONE);
        e.due("from 6 into 0", x.team(27, 0), 6);
        e.due("it is in one alone: 6", x.teamed(6, 0), 3);
        e.due("it is in one alone: 0", x.teamed(0, 0), 4);

        e.promise(12, "A RIDER is of a TEAM (NONE: of none): of which it was (NONE);");
        x = entered(3);
        e.due("of none", x.team(1, 0), NONE);
        e.due("of 0", x.team(1, 6), 0);
        e.due("of 6", x.team(1, NONE), 6);
        e.due("of none to none", x.team(1, NONE), NONE);
        e.due("nobody is left in 6", x.teamed(6, 0), 0);

        e.promise(12, "RANGE: no such RIDER (entered), TEAM;");
        for (int r : NO_RIDERS) {
            e.due("rider " + r, x.team(r, 0), RANGE);
            e.due("rider " + r + " of none", x.team(r, NONE), RANGE);
        }
        e.due("who isn't entered", x.team(3, 0), RANGE);
        e.due("who isn't entered, of none", x.team(3, NONE), RANGE);
        int[] noTeams = {-2, 7, 8, Integer.MAX_VALUE, Integer.MIN_VALUE};
        x.team(2, 5);
        for (int t : noTeams) {
            e.due("team " + t, x.team(2, t), RANGE);
        }
        e.due("it stays where it was", x.team(2, 5), 5);

        e.promise(12, "FULL: the TEAM has four others.");
        x = entered(6);
        for (int r = 0; r < 4; r++) {
            x.team(r, 2);
        }
        for (int r = 0; r < 4; r++) {
            e.due("one of the four stays", x.team(r, 2), 2);
        }
        e.due("a fifth of none", x.team(4, 2), FULL);
        e.due("it is of none still", x.team(4, 1), NONE);
        e.due("a fifth of another", x.team(4, 2), FULL);
        e.due("it is of another still", x.team(4, 1), 1);
        e.due("no team is never full", x.team(4, NONE), 1);
        e.due("four of none and more", x.team(5, NONE), NONE);
        e.due("one goes", x.team(3, NONE), 2);
        e.due("now there is room", x.team(4, 2), NONE);
        e.due("and no more", x.team(3, 2), FULL);
    }

    private static void orders(Edges e) {
        e.promise(13, "How many orders the entered RIDERS have;");
        JumpRing x = entered(0);
        int product = 1;
        e.due("of nobody", x.orders(), 1);
        for (int n = 1; n <= 12; n++) {
            x.enter(30 - n, true);
            product *= n;
            e.due("of " + n, x.orders(), product);
        }
        e.promise(13, "FULL: more than 12 are entered.");
        x.enter(0, true);
        e.due("13", x.orders(), FULL);
        for (int r = 0; r < 30; r++) {
            x.enter(r, true);
        }
        e.due("30", x.orders(), FULL);
        for (int r = 29; r > 12; r--) {
            x.enter(r, false);
        }
        e.due("13 are left", x.orders(), FULL);
        x.enter(12, false);
        e.due("12 are left", x.orders(), 479001600);
    }

    private static void lots(Edges e) {
        e.terms("of all their orders by rising rows (12 RIDERS at most)");
        JumpRing x = entered(0);
        int[] twelve = {1, 2, 3, 5, 8, 13, 14, 15, 20, 27, 28, 29};
        for (int r : twelve) {
            x.enter(r, true);
        }
        for (int i = 0; i < 12; i++) {
            e.due("the first order, " + i, x.lot(0, i), twelve[i]);
            e.due("the last order, " + i, x.lot(479001599, i), twelve[11 - i]);
            e.due("the second order, " + i, x.lot(1, i), twelve[i < 10 ? i : 21 - i]);
        }
        e.due("where the first place changes, ahead", x.lot(39916799, 0), 1);
        e.due("where the first place changes, behind", x.lot(39916800, 0), 2);
        e.due("the rest rises anew", x.lot(39916800, 1), 1);
        risingRows(e);

        e.promise(14, "NONE: no such i;");
        int[] noTurns = {-1, 12, 13, 30, Integer.MAX_VALUE, Integer.MIN_VALUE};
        for (int i : noTurns) {
            e.due("i " + i, x.lot(0, i), NONE);
        }
        e.due("of nobody", entered(0).lot(0, 0), NONE);
        e.due("of one, the first", entered(1).lot(0, 0), 0);
        e.due("of one, the second", entered(1).lot(0, 1), NONE);

        e.promise(14, "RANGE: no such number;");
        int[] noNumbers = {-1, 479001600, Integer.MAX_VALUE, Integer.MIN_VALUE};
        for (int number : noNumbers) {
            e.due("number " + number, x.lot(number, 0), RANGE);
            e.due("number " + number + ", the last", x.lot(number, 11), RANGE);
        }
        e.due("of one, number 1", entered(1).lot(1, 0), RANGE);

        e.promise(14, "FULL likewise.");
        x.enter(0, true);
        for (int i = 0; i < 13; i++) {
            e.due("13 are entered, " + i, x.lot(0, i), FULL);
        }
        e.due("30 are entered", entered(30).lot(0, 29), FULL);
        x.enter(29, false);
        e.due("12 are entered again", x.lot(0, 0), 0);
    }

    /** Each order is behind the one with the number ahead, by the first place where they differ. */
    private static void risingRows(Edges e) {
        int[] five = {4, 9, 10, 16, 25};
        int[] former = new int[5];
        for (int number = 0; number < 120; number++) {
            JumpRing x = entered(0);
            for (int r : five) {
                x.enter(r, true);
            }
            int[] row = new int[5];
            int riders = 0;
            for (int i = 0; i < 5; i++) {
                row[i] = x.lot(number, i);
                riders |= 1 << row[i];
            }
            e.due("order " + number + " has each rider", riders, 1 << 4 | 1 << 9 | 1 << 10 | 1 << 16 | 1 << 25);
            e.due("order " + number + " rises", java.util.Arrays.compare(row, former) > 0 ? 1 : 0, 1);
            former = row;
        }
    }
}
