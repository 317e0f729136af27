import java.util.ArrayList;
import java.util.List;
import java.util.function.ToIntFunction;

/**
 * A refused call changes nothing: all that can be asked of an object is asked with the refused call
 * and without it. The last questions take every event back, so they stand at the end.
 */
public final class RefusedTest {
    private static final int NONE = JumpRing.NONE;
    private static final int RANGE = JumpRing.RANGE;
    private static final int FULL = JumpRing.FULL;
    private static final int STATE = JumpRing.STATE;

    private static final String COURSE = "start 0 0;fence 10 0 high 120;fence 20 0 high 120;"
            + "fence 28 0 high 120 joined;water 40 0 wide 300;finish 70 0;";
    private static final String SHORT = "start 0 0;fence 10 0 high 100;finish 20 0;";
    private static final int[] RIDERS = {0, 1, 2, 3, 4, 29};

    private record Refused(String call, ToIntFunction<JumpRing> made, int answer) { }

    private RefusedTest() {
    }

    public static void main(String[] args) {
        Check t = new Check("RefusedTest");
        for (Refused one : anywhere()) {
            held(t, "new", RefusedTest::fresh, one);
            held(t, "told", RefusedTest::told, one);
            held(t, "ridden", RefusedTest::ridden, one);
        }
        for (Refused one : whenNew()) {
            held(t, "new", RefusedTest::fresh, one);
        }
        for (Refused one : whenTold()) {
            held(t, "told", RefusedTest::told, one);
        }
        for (Refused one : whenRidden()) {
            held(t, "ridden", RefusedTest::ridden, one);
        }
        for (Refused one : whenFull()) {
            held(t, "full", RefusedTest::full, one);
        }
        t.close();
    }

    private interface Maker {
        JumpRing make();
    }

    private static void held(Check t, String when, Maker maker, Refused one) {
        JumpRing x = maker.make();
        t.due(when + ": " + one.call, one.made.applyAsInt(x), one.answer);
        List<Integer> with = asked(x);
        List<Integer> without = asked(maker.make());
        for (int i = 0; i < with.size(); i++) {
            t.due(when + ": answer " + i + " behind " + one.call, with.get(i), without.get(i));
        }
    }

    /** A new object with seven bytes on its tape. */
    private static JumpRing fresh() {
        JumpRing x = new JumpRing();
        Check.tape(x, "down 9;");
        return x;
    }

    /** Courses and laws told, six entered, four of a team; the latest text had a fault. */
    private static JumpRing told() {
        JumpRing x = new JumpRing();
        Check.course(x, 0, COURSE);
        Check.course(x, 1, SHORT);
        Check.laws(x, "fall 3;refusal 1 2;team 2;wrong");
        Check.laws(x, "fall 3;refusal 1 2;team 2;");
        Check.course(x, 1, SHORT + "wrong");
        for (int r : RIDERS) {
            x.enter(r, true);
            x.team(r, r < 4 ? 5 : NONE);
        }
        x.team(4, 0);
        Check.tape(x, "down 9;");
        return x;
    }

    /** 0: RIDE 1 on its way, 1: finished, 2: out, 3: on its way, at the water, 4: not begun, 29: at the finish. */
    private static JumpRing ridden() {
        JumpRing x = told();
        go(x, 0, 0, 0, 0, 0, 0);
        x.finish(0, 0, 100, NONE);
        x.begin(0, 1);
        x.jump(0, 1, 2);
        go(x, 1, 0, 0, 3, 0, 0, 0);
        x.finish(1, 0, 110, 111);
        go(x, 2, 1);
        x.retire(2, 0);
        go(x, 3, 0, 1, 0);
        go(x, 29, 0, 0, 0, 0);
        return x;
    }

    /** As before, but 3 has all the events that may be. */
    private static JumpRing full() {
        JumpRing x = ridden();
        for (int i = 3; i < 60; i++) {
            x.fall(3, 0);
        }
        return x;
    }

    private static void go(JumpRing x, int r, int... hows) {
        x.begin(r, 0);
        for (int how : hows) {
            x.jump(r, 0, how);
        }
    }

    private static List<Refused> anywhere() {
        List<Refused> all = new ArrayList<>();
        int[] noRiders = {-1, 30, Integer.MAX_VALUE, Integer.MIN_VALUE};
        for (int r : noRiders) {
            all.add(new Refused("enter(" + r + ", true)", x -> x.enter(r, true), RANGE));
            all.add(new Refused("enter(" + r + ", false)", x -> x.enter(r, false), RANGE));
            all.add(new Refused("team(" + r + ", 0)", x -> x.team(r, 0), RANGE));
            all.add(new Refused("begin(" + r + ", 0)", x -> x.begin(r, 0), RANGE));
            all.add(new Refused("jump(" + r + ", 0, 0)", x -> x.jump(r, 0, 0), RANGE));
            all.add(new Refused("fall(" + r + ", 0)", x -> x.fall(r, 0), RANGE));
            all.add(new Refused("retire(" + r + ", 0)", x -> x.retire(r, 0), RANGE));
            all.add(new Refused("finish(" + r + ", 0, 1, 1)", x -> x.finish(r, 0, 1, 1), RANGE));
            all.add(new Refused("back(" + r + ", 0)", x -> x.back(r, 0), RANGE));
        }
        int[] noRides = {-1, 2, Integer.MAX_VALUE, Integer.MIN_VALUE};
        for (int k : noRides) {
            all.add(new Refused("course(" + k + ")", x -> x.course(k), RANGE));
            all.add(new Refused("begin(3, " + k + ")", x -> x.begin(3, k), RANGE));
            all.add(new Refused("jump(3, " + k + ", 0)", x -> x.jump(3, k, 0), RANGE));
            all.add(new Refused("fall(3, " + k + ")", x -> x.fall(3, k), RANGE));
            all.add(new Refused("retire(3, " + k + ")", x -> x.retire(3, k), RANGE));
            all.add(new Refused("finish(29, " + k + ", 1, 1)", x -> x.finish(29, k, 1, 1), RANGE));
            all.add(new Refused("back(3, " + k + ")", x -> x.back(3, k), RANGE));
        }
        int[] noEnds = {8, 2000, Integer.MAX_VALUE, -1, Integer.MIN_VALUE};
        for (int n : noEnds) {
            all.add(new Refused("end(" + n + ")", x -> x.end(n), NONE));
        }
        all.add(new Refused("jump(3, 0, 4)", x -> x.jump(3, 0, 4), RANGE));
        all.add(new Refused("jump(3, 0, -1)", x -> x.jump(3, 0, -1), RANGE));
        all.add(new Refused("finish(29, 0, -1, -1)", x -> x.finish(29, 0, NONE, NONE), RANGE));
        all.add(new Refused("finish(29, 0, -2, 1)", x -> x.finish(29, 0, -2, 1), RANGE));
        all.add(new Refused("finish(29, 0, 1, 100000)", x -> x.finish(29, 0, 1, 100000), RANGE));
        all.add(new Refused("team(0, 7)", x -> x.team(0, 7), RANGE));
        all.add(new Refused("team(0, -2)", x -> x.team(0, -2), RANGE));
        return all;
    }

    private static List<Refused> whenNew() {
        List<Refused> all = new ArrayList<>();
        all.add(new Refused("begin(0, 0)", x -> x.begin(0, 0), RANGE));
        all.add(new Refused("team(0, 0)", x -> x.team(0, 0), RANGE));
        all.add(new Refused("team(0, -1)", x -> x.team(0, NONE), RANGE));
        all.add(new Refused("enter(0, false)", x -> x.enter(0, false), 0));
        all.add(new Refused("jump(0, 0, 0)", x -> x.jump(0, 0, 0), STATE));
        all.add(new Refused("fall(0, 0)", x -> x.fall(0, 0), STATE));
        all.add(new Refused("retire(0, 0)", x -> x.retire(0, 0), STATE));
        all.add(new Refused("finish(0, 0, 1, 1)", x -> x.finish(0, 0, 1, 1), STATE));
        all.add(new Refused("back(0, 0)", x -> x.back(0, 0), STATE));
        all.add(new Refused("lot(0, 0)", x -> x.lot(0, 0), NONE));
        return all;
    }

    private static List<Refused> whenTold() {
        List<Refused> all = new ArrayList<>();
        all.add(new Refused("team(4, 5)", x -> x.team(4, 5), FULL));
        all.add(new Refused("team(5, 5)", x -> x.team(5, 5), RANGE));
        all.add(new Refused("team(0, 5)", x -> x.team(0, 5), 5));
        all.add(new Refused("enter(0, true)", x -> x.enter(0, true), 0));
        all.add(new Refused("enter(5, false)", x -> x.enter(5, false), 0));
        all.add(new Refused("begin(5, 0)", x -> x.begin(5, 0), RANGE));
        all.add(new Refused("begin(0, 1)", x -> x.begin(0, 1), STATE));
        all.add(new Refused("lot(720, 0)", x -> x.lot(720, 0), RANGE));
        return all;
    }

    private static List<Refused> whenRidden() {
        List<Refused> all = new ArrayList<>();
        all.add(new Refused("course(0)", x -> x.course(0), STATE));
        all.add(new Refused("course(1)", x -> x.course(1), STATE));
        all.add(new Refused("laws()", x -> x.laws(), STATE));
        for (int r : RIDERS) {
            if (r != 4) {
                all.add(new Refused("enter(" + r + ", true)", x -> x.enter(r, true), STATE));
                all.add(new Refused("enter(" + r + ", false)", x -> x.enter(r, false), STATE));
                all.add(new Refused("begin(" + r + ", 0)", x -> x.begin(r, 0), STATE));
            }
            if (r != 1) {
                all.add(new Refused("begin(" + r + ", 1)", x -> x.begin(r, 1), STATE));
            }
            if (r != 29) {
                all.add(new Refused("finish(" + r + ", 0, 1, 1)", x -> x.finish(r, 0, 1, 1), STATE));
            }
            if (r != 3) {
                all.add(new Refused("jump(" + r + ", 0, 0)", x -> x.jump(r, 0, 0), STATE));
                all.add(new Refused("jump(" + r + ", 0, 3)", x -> x.jump(r, 0, 3), STATE));
            }
            if (r != 3 && r != 29) {
                all.add(new Refused("fall(" + r + ", 0)", x -> x.fall(r, 0), STATE));
                all.add(new Refused("retire(" + r + ", 0)", x -> x.retire(r, 0), STATE));
            }
        }
        all.add(new Refused("back(0, 0)", x -> x.back(0, 0), STATE));
        all.add(new Refused("back(4, 0)", x -> x.back(4, 0), STATE));
        all.add(new Refused("back(1, 1)", x -> x.back(1, 1), STATE));
        all.add(new Refused("jump(3, 0, 3)", x -> x.jump(3, 0, 3), RANGE));
        all.add(new Refused("finish(0, 1, 1, 1)", x -> x.finish(0, 1, 1, 1), STATE));
        return all;
    }

    private static List<Refused> whenFull() {
        List<Refused> all = new ArrayList<>();
        for (int how = 0; how < 3; how++) {
            int now = how;
            all.add(new Refused("jump(3, 0, " + how + ")", x -> x.jump(3, 0, now), FULL));
        }
        all.add(new Refused("jump(3, 0, 3)", x -> x.jump(3, 0, 3), RANGE));
        all.add(new Refused("fall(3, 0)", x -> x.fall(3, 0), FULL));
        all.add(new Refused("retire(3, 0)", x -> x.retire(3, 0), FULL));
        all.add(new Refused("finish(3, 0, 1, 1)", x -> x.finish(3, 0, 1, 1), STATE));
        return all;
    }

    /** Everything that can be asked; with what comes ahead of it fewer than 512 calls. */
    private static List<Integer> asked(JumpRing x) {
        List<Integer> all = new ArrayList<>();
        for (int what = 0; what <= 20; what++) {
            all.add(x.law(what));
        }
        for (int what = 0; what <= 6; what++) {
            all.add(x.count(what));
            all.add(x.fault(what));
            all.add(x.placed(what));
            all.add(x.lot(100, what));
        }
        all.add(x.orders());
        for (int c = 0; c < 2; c++) {
            all.add(x.legal(c));
            for (int what = 0; what < 4; what++) {
                all.add(x.about(c, what));
                all.add(x.fence(c, what, 2));
                all.add(x.fence(c, what, 4));
            }
            for (int what = 0; what < 9; what++) {
                all.add(x.shared(c, what / 3, what % 3));
            }
        }
        for (int what = 0; what < 4; what++) {
            all.add(x.teamed(0, what));
            all.add(x.teamed(5, what));
        }
        for (int r : RIDERS) {
            all.add(x.place(r));
            all.add(x.asked(r));
            rideOf(x, r, 0, all);
            rideOf(x, r, 1, all);
        }
        for (int r : RIDERS) {
            takenBack(x, r, all);
            all.add(x.team(r, 6));
        }
        all.add(x.end(7));
        all.add(x.laws());
        all.add(x.law(8));
        return all;
    }

    private static void rideOf(JumpRing x, int r, int k, List<Integer> all) {
        for (int what = 0; what < 8; what++) {
            all.add(x.ride(r, k, what));
        }
    }

    private static void takenBack(JumpRing x, int r, List<Integer> all) {
        for (int i = 0; i < 3; i++) {
            all.add(x.back(r, 1));
            all.add(x.back(r, 0));
            all.add(x.ride(r, 0, 1));
            all.add(x.ride(r, 0, 2));
        }
    }
}
