/** Promise 25: teamed. */
public final class TeamsTest {
    private static final String COURSE = "start 0 0;fence 10 0 high 120;fence 20 0 high 120;"
            + "fence 30 0 high 120;finish 70 0;";

    public static void main(String[] args) {
        Check t = new Check("TeamsTest");
        ranges(t);
        oneDropped(t);
        leastTime(t);
        howMany(t);
        places(t);
        t.close();
    }

    private static JumpRing ring(String laws) {
        JumpRing x = new JumpRing();
        Check.course(x, 0, COURSE);
        Check.course(x, 1, COURSE);
        Check.laws(x, laws);
        return x;
    }

    private static void add(JumpRing x, int r, int t, int downs, int time) {
        Check.ridden(x, r, 0, downs, time);
        x.team(r, t);
    }

    private static void teamIs(Check t, String when, JumpRing x, int team, int... want) {
        for (int what = 0; what < 4; what++) {
            t.due(when + ": teamed(" + team + ", " + what + ")", x.teamed(team, what), want[what]);
        }
        t.due(when + ": what 4", x.teamed(team, 4), Check.NONE);
        t.due(when + ": what -1", x.teamed(team, -1), Check.NONE);
    }

    private static void ranges(Check t) {
        JumpRing x = ring("");
        for (int team = 0; team < 7; team++) {
            teamIs(t, "empty", x, team, 0, -1, -1, -1);
        }
        int[] none = {-1, 7, Integer.MAX_VALUE, Integer.MIN_VALUE};
        for (int team : none) {
            for (int what = 0; what < 4; what++) {
                t.due("no such team", x.teamed(team, what), Check.NONE);
            }
        }
    }

    private static void oneDropped(Check t) {
        JumpRing x = ring("");
        add(x, 0, 6, 1, 100);
        add(x, 1, 6, 3, 50);
        teamIs(t, "two", x, 6, 2, -1, -1, -1);
        add(x, 2, 6, 0, 110);
        teamIs(t, "three", x, 6, 3, 16, 260, 1);
        add(x, 3, 6, 2, 90);
        teamIs(t, "the worst is dropped", x, 6, 4, 12, 300, 1);
        x.back(3, 0);
        teamIs(t, "one taken back", x, 6, 4, 16, 260, 1);
        x.retire(3, 0);
        teamIs(t, "one out", x, 6, 4, 16, 260, 1);
        x.back(0, 0);
        teamIs(t, "two of four", x, 6, 4, -1, -1, -1);
        x.finish(0, 0, 241, -1);
        teamIs(t, "one above the limit", x, 6, 4, -1, -1, -1);
        x.back(0, 0);
        x.finish(0, 0, 130, -1);
        teamIs(t, "with late ones", x, 6, 4, 17, 290, 1);
        x.team(2, Check.NONE);
        teamIs(t, "one gone", x, 6, 3, -1, -1, -1);
        Check.ridden(x, 0, 1, 0, 10);
        x.team(2, 6);
        teamIs(t, "RIDES 1 tell nothing", x, 6, 4, 17, 290, 1);
    }

    private static void leastTime(Check t) {
        JumpRing x = ring("team 2;");
        add(x, 10, 0, 0, 110);
        add(x, 11, 0, 0, 90);
        add(x, 12, 0, 0, 100);
        add(x, 13, 0, 1, 10);
        teamIs(t, "those with the least time", x, 0, 4, 0, 190, 1);
        x = ring("team 2;");
        add(x, 10, 0, 0, 110);
        add(x, 11, 0, 1, 90);
        add(x, 12, 0, 1, 80);
        add(x, 13, 0, 1, 100);
        teamIs(t, "of as many faults", x, 0, 4, 4, 190, 1);
        x = ring("team 2;");
        add(x, 10, 0, 0, 100);
        add(x, 11, 0, 0, 100);
        add(x, 12, 0, 0, 100);
        teamIs(t, "all alike", x, 0, 3, 0, 200, 1);
        x = ring("team 1;");
        add(x, 0, 5, 1, 101);
        add(x, 29, 5, 0, 103);
        teamIs(t, "the first RIDER is dropped", x, 5, 2, 0, 103, 1);
        x.team(29, Check.NONE);
        teamIs(t, "the first RIDER alone", x, 5, 1, 4, 101, 1);
    }

    private static void howMany(Check t) {
        int[] faults = {0, 4, 12, 24};
        int[] times = {40, 70, 90, 100};
        for (int n = 1; n <= 4; n++) {
            JumpRing x = ring("team " + n + ";");
            add(x, 20, 3, 3, 10);
            add(x, 21, 3, 2, 20);
            add(x, 22, 3, 1, 30);
            add(x, 23, 3, 0, 40);
            teamIs(t, "the best " + n, x, 3, 4, faults[n - 1], times[n - 1], 1);
        }
    }

    private static void places(Check t) {
        JumpRing x = ring("team 1;");
        add(x, 0, 0, 1, 100);
        add(x, 1, 1, 0, 110);
        add(x, 2, 2, 1, 90);
        add(x, 3, 3, 1, 100);
        add(x, 4, 4, 2, 10);
        x.enter(5, true);
        x.team(5, 5);
        Check.ridden(x, 6, 0, 0, 1);
        int[] want = {3, 1, 2, 3, 5, -1, -1};
        for (int team = 0; team < 7; team++) {
            t.due("place of team " + team, x.teamed(team, 3), want[team]);
        }
    }
}
