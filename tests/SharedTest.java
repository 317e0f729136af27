/** Promise 26: shared. */
public final class SharedTest {
    // Obstacles: 0, 1 1, 2 (water), 3.
    private static final String COURSE = "start 0 0;fence 10 0 high 120;fence 20 0 high 120;"
            + "fence 28 0 high 120 joined;water 40 0 wide 9;fence 60 0 high 120;finish 70 0;";
    private static final String SHORT = "start 0 0;fence 10 0 high 100;finish 20 0;";

    public static void main(String[] args) {
        Check t = new Check("SharedTest");
        JumpRing x = new JumpRing();
        Check.course(x, 0, COURSE);
        t.due("course 1 untold", x.shared(1, 0, 0), Check.NONE);
        Check.course(x, 1, SHORT);
        Check.laws(x, "refusal 1 1 1;fall 1;");
        sharedIs(t, "nobody", x, 0, 0, 0, 0, 0, 0, 0, 0, 0, 0, 0, 0);
        none(t, x);
        x.enter(0, true);
        x.enter(29, true);
        x.begin(0, 0);
        x.begin(29, 0);
        jumps(x, 0, 1, 0, 2, 1, 1, 1);
        sharedIs(t, "one", x, 1, 1, 0, 4, 2, 1, 1, 1, 0, 0, 0, 0);
        jumps(x, 29, 3, 0, 3);
        sharedIs(t, "two", x, 3, 2, 1, 5, 3, 2, 1, 1, 0, 0, 0, 0);
        x.fall(29, 0);
        sharedIs(t, "a fall is no jump", x, 3, 2, 1, 5, 3, 2, 1, 1, 0, 0, 0, 0);
        x.back(29, 0);
        x.back(29, 0);
        sharedIs(t, "taken back", x, 3, 2, 1, 4, 2, 1, 1, 1, 0, 0, 0, 0);
        jumps(x, 29, 0, 0, 2, 2);
        sharedIs(t, "out at the water", x, 3, 2, 1, 6, 2, 1, 3, 1, 2, 0, 0, 0);
        jumps(x, 0, 0);
        x.finish(0, 0, 1, 1);
        sharedIs(t, "finished", x, 3, 2, 1, 6, 2, 1, 3, 1, 2, 1, 0, 0);
        t.due("RIDES 1: none", x.shared(1, 0, 0), 0);
        x.begin(0, 1);
        x.jump(0, 1, 1);
        t.due("RIDES 1: one", x.shared(1, 0, 0), 1);
        t.due("RIDES 1: down", x.shared(1, 0, 1), 1);
        t.due("RIDES 1: refused", x.shared(1, 0, 2), 0);
        sharedIs(t, "RIDES 0 as they were", x, 3, 2, 1, 6, 2, 1, 3, 1, 2, 1, 0, 0);
        none(t, x);
        t.close();
    }

    private static void jumps(JumpRing x, int r, int... hows) {
        for (int how : hows) {
            x.jump(r, 0, how);
        }
    }

    private static void sharedIs(Check t, String when, JumpRing x, int... want) {
        for (int i = 0; i < want.length; i++) {
            t.due(when + ": shared(0, " + i / 3 + ", " + i % 3 + ")", x.shared(0, i / 3, i % 3), want[i]);
        }
    }

    private static void none(Check t, JumpRing x) {
        int[][] none = {{-1, 0, 0}, {2, 0, 0}, {0, -1, 0}, {0, 4, 0}, {1, 1, 0}, {0, 0, 3}, {0, 0, -1},
            {0, Integer.MAX_VALUE, 0}, {Integer.MIN_VALUE, 0, 0}};
        for (int[] n : none) {
            t.due("shared, none such", x.shared(n[0], n[1], n[2]), Check.NONE);
        }
    }
}
