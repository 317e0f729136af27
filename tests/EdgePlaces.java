/** Sentences about places, teams' places and shares: Terms IV, promises 22 to 27. */
final class EdgePlaces {
    private static final int NONE = JumpRing.NONE;
    private static final int RANGE = JumpRing.RANGE;
    private static final int[] NO_RIDERS = {-1, 30, Integer.MAX_VALUE, Integer.MIN_VALUE};

    // 70 metres, 12 seconds; the jump off: 20 metres, 4 seconds.
    private static final String COURSE = "start 0 0;fence 10 0 high 120;fence 20 0 high 120;"
            + "fence 30 0 high 120 joined;finish 70 0;";
    private static final String SHORT = "start 0 0;fence 10 0 high 100;finish 20 0;";

    private EdgePlaces() {
    }

    static void hold(Edges e) {
        whoCounts(e);
        again(e);
        jumpOff(e);
        alike(e);
        teamTerms(e);
        teamPlaces(e);
        answers(e);
        teamAnswers(e);
        shares(e);
        counts(e);
    }

    private static JumpRing ring(String laws) {
        JumpRing x = new JumpRing();
        Check.course(x, 0, COURSE);
        Check.course(x, 1, SHORT);
        Check.laws(x, laws);
        return x;
    }

    private static void places(Edges e, String when, JumpRing x, int... want) {
        for (int r = 0; r < want.length; r++) {
            e.due(when + ": place(" + r + ")", x.place(r), want[r]);
        }
    }

    private static void asked(Edges e, String when, JumpRing x, int... want) {
        int sum = 0;
        for (int r = 0; r < want.length; r++) {
            e.due(when + ": asked(" + r + ")", x.asked(r), want[r]);
            sum += want[r];
        }
        e.due(when + ": count(5)", x.count(5), sum);
    }

    private static void order(Edges e, String when, JumpRing x, int... want) {
        for (int i = 0; i < want.length; i++) {
            e.due(when + ": placed(" + i + ")", x.placed(i), want[i]);
        }
        e.due(when + ": placed behind", x.placed(want.length), NONE);
    }

    private static void whoCounts(Edges e) {
        e.terms("by RIDES 0 that have finished and aren't OUT: by their FAULTS, then their TIME (the least first).");
        JumpRing x = ring("again none;");
        Check.ridden(x, 0, 0, 1, 10);
        Check.ridden(x, 1, 0, 0, 120);
        Check.ridden(x, 2, 0, 0, 119);
        Check.ridden(x, 3, 0, 0, 241);
        x.enter(4, true);
        x.begin(4, 0);
        x.enter(5, true);
        x.begin(5, 0);
        x.retire(5, 0);
        x.enter(6, true);
        places(e, "FAULTS, then TIME", x, 3, 2, 1, NONE, NONE, NONE, NONE);
        order(e, "FAULTS, then TIME", x, 2, 1, 0);
        x.back(2, 0);
        places(e, "a finish taken back", x, 2, 1, NONE, NONE);
        x.retire(2, 0);
        places(e, "out", x, 2, 1, NONE, NONE);
        x.back(3, 0);
        x.finish(3, 0, 240, NONE);
        places(e, "late ones are FAULTS", x, 3, 1, NONE, 2);
    }

    private static void again(Edges e) {
        e.terms("But with again first, if two or more have the fewest FAULTS: they are ASKED again");
        JumpRing x = ring("");
        asked(e, "nobody", x);
        x.enter(0, true);
        asked(e, "entered alone", x, 0);
        Check.ridden(x, 0, 0, 1, 100);
        asked(e, "one", x, 0);
        Check.ridden(x, 1, 0, 1, 90);
        asked(e, "two", x, 1, 1);
        places(e, "two", x, 1, 1);
        Check.ridden(x, 2, 0, 1, 80);
        asked(e, "three", x, 1, 1, 1);
        Check.ridden(x, 3, 0, 2, 80);
        Check.ridden(x, 4, 0, 2, 80);
        asked(e, "two with more", x, 1, 1, 1, 0, 0);
        places(e, "two with more", x, 1, 1, 1, 4, 4);
        Check.ridden(x, 5, 0, 0, 80);
        asked(e, "one with fewer", x, 0, 0, 0, 0, 0, 0);
        places(e, "one with fewer", x, 4, 3, 2, 5, 5, 1);
        Check.ridden(x, 6, 0, 0, 241);
        asked(e, "one that is out is not with them", x, 0, 0, 0, 0, 0, 0, 0);
        JumpRing none = ring("again none;");
        Check.ridden(none, 0, 0, 0, 100);
        Check.ridden(none, 1, 0, 0, 90);
        asked(e, "again none", none, 0, 0);
        places(e, "again none", none, 2, 1);
        Check.ridden(none, 0, 1, 0, 10);
        places(e, "again none, with a RIDE 1", none, 2, 1);
        JumpRing all = ring("");
        for (int r = 0; r < 30; r++) {
            Check.ridden(all, r, 0, 0, 100 - r);
        }
        e.due("all thirty", all.count(5), 30);
        e.due("all thirty alike: the first", all.place(0), 1);
        e.due("all thirty alike: the last", all.place(29), 1);
        e.due("the least number first", all.placed(0), 0);
        e.due("the greatest last", all.placed(29), 29);
        e.due("no thirty-first", all.placed(30), NONE);
    }

    private static void jumpOff(Edges e) {
        e.terms("and are placed ahead by their RIDES 1: by FAULTS, then TIME,"
                + " those without a finished one (or OUT) behind these, all alike.");
        JumpRing x = ring("");
        for (int r = 0; r < 7; r++) {
            Check.ridden(x, r, 0, 0, 60 + r);
        }
        Check.ridden(x, 7, 0, 1, 1);
        Check.ridden(x, 7, 1, 0, 1);
        places(e, "none rode again", x, 1, 1, 1, 1, 1, 1, 1, 8);
        Check.ridden(x, 0, 1, 1, 10);
        places(e, "one with a rail", x, 1, 2, 2, 2, 2, 2, 2, 8);
        Check.ridden(x, 1, 1, 0, 40);
        places(e, "one clear", x, 2, 1, 3, 3, 3, 3, 3, 8);
        Check.ridden(x, 2, 1, 0, 39);
        places(e, "one clear and faster", x, 3, 2, 1, 4, 4, 4, 4, 8);
        x.begin(3, 1);
        x.jump(3, 1, 0);
        x.begin(4, 1);
        x.retire(4, 1);
        Check.ridden(x, 5, 1, 0, 81);
        e.due("one above the limit", x.ride(5, 1, 0), 3);
        places(e, "on its way, out, above the limit, not begun", x, 3, 2, 1, 4, 4, 4, 4, 8);
        order(e, "on its way, out, above the limit, not begun", x, 2, 1, 0, 3, 4, 5, 6, 7);
        x.finish(3, 1, 0, NONE);
        places(e, "in no time", x, 4, 3, 2, 1, 5, 5, 5, 8);
        x.back(3, 1);
        places(e, "taken back", x, 3, 2, 1, 4, 4, 4, 4, 8);
        x.finish(3, 1, 40, NONE);
        places(e, "as fast as another", x, 4, 2, 1, 2, 5, 5, 5, 8);
    }

    private static void alike(Edges e) {
        e.terms("Alike ones have the same PLACE (1 and how many are ahead).");
        JumpRing x = ring("again none;");
        Check.ridden(x, 0, 0, 1, 90);
        Check.ridden(x, 1, 0, 0, 90);
        Check.ridden(x, 2, 0, 1, 90);
        Check.ridden(x, 3, 0, 0, 90);
        Check.ridden(x, 4, 0, 1, 91);
        places(e, "two and two", x, 3, 1, 3, 1, 5);
        order(e, "two and two", x, 1, 3, 0, 2, 4);
    }

    private static void add(JumpRing x, int r, int t, int downs, int time) {
        Check.ridden(x, r, 0, downs, time);
        x.team(r, t);
    }

    private static void teamIs(Edges e, String when, JumpRing x, int t, int... want) {
        for (int what = 0; what < want.length; what++) {
            e.due(when + ": teamed(" + t + ", " + what + ")", x.teamed(t, what), want[what]);
        }
    }

    private static void teamTerms(Edges e) {
        e.terms("the sum of the team best FAULTS of RIDES 0 that count for PLACES; with fewer of these it has none.");
        for (int best = 1; best <= 4; best++) {
            JumpRing x = ring("team " + best + ";");
            int[] faults = {12, 8, 4, 0};
            for (int n = 1; n <= 4; n++) {
                add(x, n, 6, 4 - n, 10 * n);
                int sum = 0;
                int time = 0;
                for (int i = 0; i < best && best <= n; i++) {
                    sum += faults[n - 1 - i];
                    time += 10 * (n - i);
                }
                boolean has = n >= best;
                teamIs(e, n + " of team " + best, x, 6, n, has ? sum : NONE, has ? time : NONE, has ? 1 : NONE);
            }
            x.back(4, 0);
            e.due("a finish taken back of team " + best, x.teamed(6, 1) == NONE ? 1 : 0, best == 4 ? 1 : 0);
            x.back(3, 0);
            x.finish(3, 0, 241, NONE);
            e.due("one above the limit of team " + best, x.teamed(6, 1) == NONE ? 1 : 0, best >= 3 ? 1 : 0);
            x.back(2, 0);
            x.retire(2, 0);
            e.due("one out of team " + best, x.teamed(6, 1) == NONE ? 1 : 0, best >= 2 ? 1 : 0);
            x.back(1, 0);
            e.due("none is left of team " + best, x.teamed(6, 1), NONE);
        }

        e.terms("(of RIDES with as many FAULTS those with the least TIME)");
        JumpRing x = ring("team 2;");
        add(x, 0, 0, 1, 90);
        add(x, 1, 0, 1, 70);
        add(x, 2, 0, 1, 80);
        teamIs(e, "three with a rail", x, 0, 3, 8, 150, 1);
        add(x, 3, 0, 0, 100);
        teamIs(e, "one clear and slow", x, 0, 4, 4, 170, 1);
        add(x, 4, 1, 0, 60);
        add(x, 5, 1, 0, 60);
        add(x, 6, 1, 0, 60);
        teamIs(e, "three alike", x, 1, 3, 0, 120, 1);
    }

    private static void teamPlaces(Edges e) {
        e.terms("TEAMS' PLACES by FAULTS, then TIME, alike.");
        JumpRing x = ring("team 1;");
        add(x, 0, 0, 1, 60);
        add(x, 1, 1, 0, 90);
        add(x, 2, 2, 1, 60);
        add(x, 3, 3, 0, 91);
        add(x, 4, 4, 1, 59);
        add(x, 5, 5, 2, 1);
        x.enter(6, true);
        x.team(6, 6);
        int[] want = {4, 1, 4, 2, 3, 6, NONE};
        for (int t = 0; t < 7; t++) {
            e.due("team " + t, x.teamed(t, 3), want[t]);
        }
        Check.ridden(x, 7, 0, 0, 1);
        e.due("who is of none changes nothing", x.teamed(1, 3), 1);
        Check.ridden(x, 0, 1, 0, 1);
        e.due("RIDES 1 change nothing", x.teamed(0, 3), 4);
    }

    private static void answers(Edges e) {
        e.promise(22, "A RIDER's PLACE; NONE: it has none; RANGE: no such RIDER (entered).");
        JumpRing x = ring("");
        for (int r : NO_RIDERS) {
            e.due("place(" + r + ")", x.place(r), RANGE);
        }
        e.due("who isn't entered", x.place(29), RANGE);
        x.enter(29, true);
        e.due("who is entered", x.place(29), NONE);
        x.begin(29, 0);
        e.due("on its way", x.place(29), NONE);
        x.jump(29, 0, 0);
        x.jump(29, 0, 0);
        x.jump(29, 0, 0);
        x.finish(29, 0, 241, NONE);
        e.due("above the limit", x.place(29), NONE);
        x.back(29, 0);
        x.finish(29, 0, 1, NONE);
        e.due("finished", x.place(29), 1);
        x.enter(0, true);
        x.enter(0, false);
        e.due("who isn't entered any more", x.place(0), RANGE);

        e.promise(23, "1 if a RIDER is ASKED again, else 0; RANGE likewise.");
        e.due("alone", x.asked(29), 0);
        e.due("who isn't entered any more", x.asked(0), RANGE);
        for (int r : NO_RIDERS) {
            e.due("asked(" + r + ")", x.asked(r), RANGE);
        }
        Check.ridden(x, 0, 0, 0, 9);
        e.due("two: the last", x.asked(29), 1);
        e.due("two: the first", x.asked(0), 1);
        x.enter(1, true);
        e.due("who has no RIDE", x.asked(1), 0);

        e.promise(24, "The i-th RIDER by PLACES (of alike ones the lesser number first); NONE.");
        order(e, "two alike", x, 0, 29);
        Check.ridden(x, 29, 1, 0, 30);
        order(e, "the last is first", x, 29, 0);
        int[] none = {-1, 2, 30, Integer.MAX_VALUE, Integer.MIN_VALUE};
        for (int i : none) {
            e.due("placed(" + i + ")", x.placed(i), NONE);
        }
        e.due("nobody", ring("").placed(0), NONE);
    }

    private static void teamAnswers(Edges e) {
        e.promise(25, "what 0: RIDERS, 1: FAULTS (NONE: it has none), 2: TIME (NONE), 3: PLACE (NONE).");
        JumpRing x = ring("team 2;");
        teamIs(e, "nobody is in it", x, 6, 0, NONE, NONE, NONE);
        x.enter(0, true);
        x.team(0, 6);
        teamIs(e, "one who didn't ride", x, 6, 1, NONE, NONE, NONE);
        add(x, 1, 6, 0, 0);
        teamIs(e, "too few", x, 6, 2, NONE, NONE, NONE);
        add(x, 2, 6, 0, 0);
        teamIs(e, "no FAULTS, no TIME", x, 6, 3, 0, 0, 1);
        e.promise(25, "NONE when there is none such.");
        int[] noTeams = {-1, 7, Integer.MAX_VALUE, Integer.MIN_VALUE};
        for (int t : noTeams) {
            for (int what = 0; what < 4; what++) {
                e.due("teamed(" + t + ", " + what + ")", x.teamed(t, what), NONE);
            }
        }
        int[] noWhats = {-1, 4, Integer.MAX_VALUE, Integer.MIN_VALUE};
        for (int what : noWhats) {
            e.due("what " + what, x.teamed(6, what), NONE);
        }
    }

    private static void shares(Edges e) {
        e.promise(26, "over all RIDES k (as far as they are), what 0: JUMPS (of all its parts),"
                + " 1: those that were 1 or 3, 2: those that were 2 or 3.");
        JumpRing x = ring("fall 0;refusal 0 0 0;");
        shareIs(e, "no RIDE", x, 0, 0, 0, 0, 0, 0);
        x.enter(0, true);
        x.begin(0, 0);
        shareIs(e, "begun", x, 0, 0, 0, 0, 0, 0);
        int[] hows = {0, 1, 2, 3, 0, 1};
        for (int how : hows) {
            x.jump(0, 0, how);
        }
        // fence 0: clear; of obstacle 1: down, refused at its second part, refused and down, clear, down
        shareIs(e, "on its way", x, 1, 0, 0, 5, 3, 2);
        x.fall(0, 0);
        shareIs(e, "a FALL is no JUMP", x, 1, 0, 0, 5, 3, 2);
        x.finish(0, 0, 1, NONE);
        shareIs(e, "finished", x, 1, 0, 0, 5, 3, 2);
        x.enter(29, true);
        x.begin(29, 0);
        x.jump(29, 0, 3);
        x.retire(29, 0);
        shareIs(e, "one that is out too", x, 2, 1, 1, 5, 3, 2);
        x.back(29, 0);
        x.back(29, 0);
        shareIs(e, "taken back", x, 1, 0, 0, 5, 3, 2);
        x.begin(0, 1);
        x.jump(0, 1, 1);
        shareIs(e, "RIDE 1 is another course's", x, 1, 0, 0, 5, 3, 2);
        e.due("RIDE 1", x.shared(1, 0, 0), 1);

        e.promise(26, "NONE when there is none such.");
        int[][] none = {{0, -1, 0}, {0, 2, 0}, {0, 20, 0}, {1, 1, 0}, {0, 0, -1}, {0, 0, 3}, {-1, 0, 0}, {2, 0, 0},
            {0, Integer.MAX_VALUE, 0}, {0, Integer.MIN_VALUE, 0}, {0, 0, Integer.MAX_VALUE}, {0, 0, Integer.MIN_VALUE},
            {Integer.MAX_VALUE, 0, 0}, {Integer.MIN_VALUE, 0, 0}};
        for (int[] koWhat : none) {
            e.due("shared(" + koWhat[0] + ", " + koWhat[1] + ", " + koWhat[2] + ")",
                    x.shared(koWhat[0], koWhat[1], koWhat[2]), NONE);
        }
        e.due("of a COURSE untold", new JumpRing().shared(0, 0, 0), NONE);
        JumpRing empty = new JumpRing();
        Check.course(empty, 0, "start 0 0;finish 1 1;");
        e.due("of a COURSE without OBSTACLES", empty.shared(0, 0, 0), NONE);
    }

    private static void shareIs(Edges e, String when, JumpRing x, int... want) {
        for (int i = 0; i < want.length; i++) {
            e.due(when + ": shared(0, " + i / 3 + ", " + i % 3 + ")", x.shared(0, i / 3, i % 3), want[i]);
        }
    }

    private static void countsAre(Edges e, String when, JumpRing x, int... want) {
        for (int what = 0; what < want.length; what++) {
            e.due(when + ": count(" + what + ")", x.count(what), want[what]);
        }
    }

    private static void counts(Edges e) {
        e.promise(27, "1, 2: RIDES 0, 1 begun, 3, 4: those finished and not OUT, 5: those ASKED again,"
                + " 6: bytes of THE TAPE.");
        JumpRing x = ring("");
        countsAre(e, "nobody", x, 0, 0, 0, 0, 0, 0, 0);
        x.enter(0, true);
        countsAre(e, "entered", x, 1, 0, 0, 0, 0, 0, 0);
        x.begin(0, 0);
        countsAre(e, "begun", x, 1, 1, 0, 0, 0, 0, 0);
        x.retire(0, 0);
        countsAre(e, "out", x, 1, 1, 0, 0, 0, 0, 0);
        x.back(0, 0);
        x.jump(0, 0, 0);
        x.jump(0, 0, 0);
        x.jump(0, 0, 0);
        x.finish(0, 0, 241, NONE);
        countsAre(e, "above the limit", x, 1, 1, 0, 0, 0, 0, 0);
        x.back(0, 0);
        x.finish(0, 0, 9, NONE);
        countsAre(e, "finished", x, 1, 1, 0, 1, 0, 0, 0);
        x.begin(0, 1);
        countsAre(e, "begun again", x, 1, 1, 1, 1, 0, 0, 0);
        x.jump(0, 1, 0);
        x.finish(0, 1, 9, NONE);
        countsAre(e, "finished again", x, 1, 1, 1, 1, 1, 0, 0);
        Check.ridden(x, 29, 0, 0, 9);
        countsAre(e, "two", x, 2, 2, 1, 2, 1, 2, 0);
        x.feed(0, 0, 0, 0, 0);
        x.end(19);
        countsAre(e, "with a tape", x, 2, 2, 1, 2, 1, 2, 19);

        e.promise(27, "NONE for others.");
        int[] none = {-1, 7, Integer.MAX_VALUE, Integer.MIN_VALUE};
        for (int what : none) {
            e.due("count(" + what + ")", x.count(what), NONE);
        }
    }
}
