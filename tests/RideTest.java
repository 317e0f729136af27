/** Promises 15 to 21: begin, jump, fall, retire, finish, back, ride. */
public final class RideTest {
    // A way of 70 metres: 12 seconds allowed at 350 metres a minute; obstacles 0, 1 1 1, 2, 3.
    private static final String COURSE = "start 0 0;fence 10 0 high 120;fence 20 0 high 120;"
            + "fence 28 0 high 120 joined;fence 36 0 high 120 joined;water 50 0 wide 300;"
            + "fence 60 0 high 120;finish 70 0;";
    private static final String SHORT = "start 0 0;fence 10 0 high 100;finish 20 0;";

    public static void main(String[] args) {
        Check t = new Check("RideTest");
        beginning(t);
        refused(t);
        jumping(t);
        refusals(t);
        falls(t);
        retiring(t);
        finishing(t);
        watches(t);
        late(t);
        limits(t);
        takingBack(t);
        room(t);
        emptyCourse(t);
        t.close();
    }

    private static JumpRing ring(String laws) {
        JumpRing x = new JumpRing();
        Check.course(x, 0, COURSE);
        Check.course(x, 1, SHORT);
        Check.laws(x, laws);
        x.enter(4, true);
        x.enter(5, true);
        return x;
    }

    private static JumpRing begun(String laws) {
        JumpRing x = ring(laws);
        x.begin(4, 0);
        return x;
    }

    private static void jumps(JumpRing x, int... hows) {
        for (int how : hows) {
            x.jump(4, 0, how);
        }
    }

    private static void rideIs(Check t, String when, JumpRing x, int... want) {
        for (int what = 0; what < want.length; what++) {
            t.due(when + ": ride(4, 0, " + what + ")", x.ride(4, 0, what), want[what]);
        }
    }

    private static void beginning(Check t) {
        JumpRing x = new JumpRing();
        x.enter(4, true);
        t.due("no course", x.begin(4, 0), Check.STATE);
        x = ring("");
        t.due("not entered", x.begin(3, 0), Check.RANGE);
        t.due("r 30", x.begin(30, 0), Check.RANGE);
        t.due("r -1", x.begin(-1, 0), Check.RANGE);
        t.due("k 2", x.begin(4, 2), Check.RANGE);
        t.due("k -1", x.begin(4, -1), Check.RANGE);
        t.due("k 1 ahead of 0", x.begin(4, 1), Check.STATE);
        rideIs(t, "not begun", x, 0, -1, -1, -1, -1, -1, -1, -1, -1);
        t.due("begin", x.begin(4, 0), 1);
        rideIs(t, "begun", x, 1, 0, 0, 0, 0, -1, 0, 0, -1);
        t.due("begin twice", x.begin(4, 0), Check.STATE);
        t.due("another at once", x.begin(5, 0), 1);
        t.due("k 1 when on its way", x.begin(4, 1), Check.STATE);
        x.retire(4, 0);
        t.due("k 1 when out", x.begin(4, 1), Check.STATE);
        x.back(4, 0);
        jumps(x, 0, 0, 0, 0, 0, 0);
        t.due("k 1 ahead of the finish", x.begin(4, 1), Check.STATE);
        x.finish(4, 0, 241, -1);
        t.due("k 1 above the limit", x.begin(4, 1), Check.STATE);
        x.back(4, 0);
        x.finish(4, 0, 100, -1);
        t.due("k 1", x.begin(4, 1), 1);
        t.due("k 1 twice", x.begin(4, 1), Check.STATE);
        t.due("k 0 when finished", x.begin(4, 0), Check.STATE);
        JumpRing y = new JumpRing();
        Check.course(y, 0, "start 0 0;finish 9 9;");
        y.enter(0, true);
        y.begin(0, 0);
        y.finish(0, 0, 1, 1);
        t.due("no course 1", y.begin(0, 1), Check.STATE);
    }

    private static void refused(Check t) {
        JumpRing x = ring("");
        int[][] none = {{30, 0}, {-1, 0}, {4, 2}, {4, -1}};
        for (int[] rk : none) {
            t.due("jump, none such", x.jump(rk[0], rk[1], 0), Check.RANGE);
            t.due("fall, none such", x.fall(rk[0], rk[1]), Check.RANGE);
            t.due("retire, none such", x.retire(rk[0], rk[1]), Check.RANGE);
            t.due("finish, none such", x.finish(rk[0], rk[1], 1, 1), Check.RANGE);
            t.due("back, none such", x.back(rk[0], rk[1]), Check.RANGE);
            t.due("ride, none such", x.ride(rk[0], rk[1], 0), Check.NONE);
        }
        int[] idle = {4, 3};
        for (int r : idle) {
            t.due("jump, not begun", x.jump(r, 0, 0), Check.STATE);
            t.due("fall, not begun", x.fall(r, 0), Check.STATE);
            t.due("retire, not begun", x.retire(r, 0), Check.STATE);
            t.due("finish, not begun", x.finish(r, 0, 1, 1), Check.STATE);
            t.due("back, not begun", x.back(r, 0), Check.STATE);
            t.due("ride, not begun", x.ride(r, 0, 0), 0);
            t.due("ride, not begun, 7", x.ride(r, 0, 7), Check.NONE);
        }
        t.due("how 4, not begun", x.jump(4, 0, 4), Check.RANGE);
        x.begin(4, 0);
        t.due("how 4", x.jump(4, 0, 4), Check.RANGE);
        t.due("how -1", x.jump(4, 0, -1), Check.RANGE);
        t.due("what 8", x.ride(4, 0, 8), Check.NONE);
        t.due("what -1", x.ride(4, 0, -1), Check.NONE);
        t.due("back of no events", x.back(4, 0), Check.STATE);
        x.retire(4, 0);
        t.due("jump when out", x.jump(4, 0, 0), Check.STATE);
        t.due("fall when out", x.fall(4, 0), Check.STATE);
        t.due("retire when out", x.retire(4, 0), Check.STATE);
        t.due("finish when out", x.finish(4, 0, 1, 1), Check.STATE);
        x.back(4, 0);
        jumps(x, 0, 0, 0, 0, 0, 0);
        x.finish(4, 0, 1, 1);
        t.due("jump when finished", x.jump(4, 0, 0), Check.STATE);
        t.due("fall when finished", x.fall(4, 0), Check.STATE);
        t.due("retire when finished", x.retire(4, 0), Check.STATE);
        t.due("finish when finished", x.finish(4, 0, 1, 1), Check.STATE);
        rideIs(t, "behind all that", x, 2, 0, -1, 0, 0, 1, 0, 7);
    }

    private static void jumping(Check t) {
        JumpRing x = begun("down 3;wet 7;");
        t.due("clear", x.jump(4, 0, 0), 1);
        t.due("down", x.jump(4, 0, 1), 2);
        rideIs(t, "a rail", x, 1, 3, 2, 0, 0, -1, 0, 2);
        jumps(x, 0, 0);
        t.due("3 of water", x.jump(4, 0, 3), Check.RANGE);
        t.due("wet", x.jump(4, 0, 1), 5);
        rideIs(t, "water", x, 1, 10, 5, 0, 0, -1, 0, 5);
        t.due("the last one", x.jump(4, 0, 1), 6);
        rideIs(t, "at the finish", x, 1, 13, 6, 0, 0, -1, 0, 6);
        t.due("no fence is due", x.jump(4, 0, 0), Check.STATE);
        t.due("3 when no fence is due", x.jump(4, 0, 3), Check.STATE);
        t.due("how 4 when no fence is due", x.jump(4, 0, 4), Check.RANGE);
    }

    private static void refusals(Check t) {
        JumpRing x = begun("refusal 1 20 300;down 7;");
        t.due("at the first fence", x.jump(4, 0, 2), 0);
        t.due("clear", x.jump(4, 0, 0), 1);
        jumps(x, 0, 0);
        t.due("at the third part", x.jump(4, 0, 3), 1);
        rideIs(t, "the second", x, 1, 21, 1, 2, 1, -1, 0, 5);
        jumps(x, 0);
        t.due("at the second part", x.jump(4, 0, 2), 1);
        rideIs(t, "the third", x, 1, 321, 1, 3, 1, -1, 0, 7);
        jumps(x, 0, 0, 0);
        t.due("the fourth, at water", x.jump(4, 0, 2), Check.NONE);
        rideIs(t, "the fourth", x, 3, 321, -1, 4, 1, -1, 0, 11);
        x.back(4, 0);
        jumps(x, 0);
        t.due("the fourth, and down", x.jump(4, 0, 3), Check.NONE);
        rideIs(t, "the fourth, and down", x, 3, 321, -1, 4, 2, -1, 0, 12);

        x = begun("");
        t.due("as untold: 1", x.jump(4, 0, 2), 0);
        t.due("as untold: 2", x.jump(4, 0, 2), 0);
        rideIs(t, "as untold", x, 1, 12, 0, 2);
        t.due("as untold: 3", x.jump(4, 0, 2), Check.NONE);
        rideIs(t, "as untold: out", x, 3, 12, -1, 3);

        x = begun("refusal 5;");
        t.due("one N: 1", x.jump(4, 0, 3), 0);
        t.due("one N: 2", x.jump(4, 0, 3), Check.NONE);
        rideIs(t, "one N", x, 3, 5, -1, 2, 2);
    }

    private static void falls(Check t) {
        JumpRing x = begun("");
        jumps(x, 1, 0);
        t.due("fall out", x.fall(4, 0), 0);
        rideIs(t, "fall out", x, 3, 4, -1, 0, 0, -1, 0, 3);
        x = begun("fall 8;");
        jumps(x, 0, 0);
        t.due("fall 8", x.fall(4, 0), 1);
        rideIs(t, "fall 8", x, 1, 8, 2, 0, 0, -1, 0, 3);
        t.due("fall 8 twice", x.fall(4, 0), 1);
        rideIs(t, "fall 8 twice", x, 1, 16, 2, 0, 0, -1, 0, 4);
        jumps(x, 0, 0, 0, 0);
        t.due("ahead of the finish", x.fall(4, 0), 1);
        rideIs(t, "ahead of the finish", x, 1, 24, 6);
        x = begun("fall 0;");
        t.due("fall 0", x.fall(4, 0), 1);
        rideIs(t, "fall 0", x, 1, 0, 0, 0, 0, -1, 0, 1);
    }

    private static void retiring(Check t) {
        JumpRing x = begun("");
        jumps(x, 1);
        t.due("retire", x.retire(4, 0), 1);
        rideIs(t, "retired", x, 3, 4, -1, 0, 0, -1, 0, 2);
        x = begun("");
        t.due("retire at once", x.retire(4, 0), 1);
        rideIs(t, "retired at once", x, 3, 0, -1, 0, 0, -1, 0, 1);
    }

    private static void finishing(Check t) {
        JumpRing x = begun("");
        t.due("a fence is due", x.finish(4, 0, 1, 1), Check.STATE);
        t.due("none showed, a fence is due", x.finish(4, 0, -1, -1), Check.RANGE);
        jumps(x, 0, 0, 0, 0, 0, 0);
        t.due("none showed", x.finish(4, 0, -1, -1), Check.RANGE);
        t.due("-2", x.finish(4, 0, -2, 1), Check.RANGE);
        t.due("second -2", x.finish(4, 0, 1, -2), Check.RANGE);
        t.due("100000", x.finish(4, 0, 100000, 1), Check.RANGE);
        t.due("second 100000", x.finish(4, 0, 1, 100000), Check.RANGE);
        t.due("0", x.finish(4, 0, 0, -1), 0);
        rideIs(t, "in no time", x, 2, 0, -1, 0, 0, 0, 0, 7);
        x.back(4, 0);
        t.due("99999", x.finish(4, 0, 99999, -1), 99999);
        // 99879 tenths above 12 seconds are 2497 begun fours of seconds
        rideIs(t, "in all time", x, 3, 2497, -1, 0, 0, 99999, 2497, 7);
    }

    private static void watches(Check t) {
        String[] laws = {"", "watch first;", "watch lesser;", "watch greater;"};
        int[][] shown = {{100, 90}, {90, 100}, {100, -1}, {-1, 90}, {0, 5}};
        int[][] want = {{100, 90, 100, 90, 0}, {100, 90, 100, 90, 0}, {90, 90, 100, 90, 0}, {100, 100, 100, 90, 5}};
        for (int i = 0; i < laws.length; i++) {
            JumpRing x = begun(laws[i]);
            jumps(x, 0, 0, 0, 0, 0, 0);
            for (int j = 0; j < shown.length; j++) {
                t.due("<" + laws[i] + "> of " + shown[j][0] + ", " + shown[j][1],
                        x.finish(4, 0, shown[j][0], shown[j][1]), want[i][j]);
                x.back(4, 0);
            }
        }
        JumpRing x = begun("watch lesser;stood 5;refusal 0 0;");
        jumps(x, 3, 0, 0, 3, 0, 0, 0, 0, 0);
        t.due("the clock stood twice", x.finish(4, 0, 30, 20), 120);
        rideIs(t, "the clock stood twice", x, 2, 0, -1, 2, 2, 120);
        x = begun("");
        jumps(x, 3, 2, 0, 0, 0, 0, 0, 0);
        t.due("it stood once as untold", x.finish(4, 0, 30, 20), 90);
    }

    private static void late(Check t) {
        // TIME ALLOWED is 12 seconds.
        int[] times = {119, 120, 121, 160, 161, 200, 201, 240};
        int[] want = {0, 0, 1, 1, 2, 2, 3, 3};
        JumpRing x = begun("");
        jumps(x, 0, 0, 0, 0, 0, 1);
        for (int i = 0; i < times.length; i++) {
            x.finish(4, 0, times[i], -1);
            t.due("late ones of " + times[i], x.ride(4, 0, 6), want[i]);
            t.due("faults with late ones of " + times[i], x.ride(4, 0, 1), 4 + want[i]);
            x.back(4, 0);
        }
        t.due("late ones taken back", x.ride(4, 0, 6), 0);
        t.due("faults taken back", x.ride(4, 0, 1), 4);
        x = begun("late 7 1;limit 999;stood 1;");
        jumps(x, 3, 0, 0, 0, 0, 0, 0);
        x.finish(4, 0, 110, -1);
        t.due("120 with what it stood", x.ride(4, 0, 6), 0);
        x.back(4, 0);
        x.finish(4, 0, 111, -1);
        t.due("121 with what it stood", x.ride(4, 0, 6), 7);
        x.back(4, 0);
        x.finish(4, 0, 121, -1);
        t.due("131 with what it stood", x.ride(4, 0, 6), 14);
        x = begun("late 0 1;");
        jumps(x, 0, 0, 0, 0, 0, 0);
        x.finish(4, 0, 200, -1);
        t.due("late 0", x.ride(4, 0, 6), 0);
    }

    private static void limits(Check t) {
        int[] limits = {100, 105, 150, 200, 999};
        for (int limit : limits) {
            JumpRing x = begun("limit " + limit + ";");
            jumps(x, 0, 0, 0, 0, 0, 0);
            int most = 120 * limit / 100;
            x.finish(4, 0, most, -1);
            t.due("at limit " + limit, x.ride(4, 0, 0), 2);
            x.back(4, 0);
            t.due("above limit " + limit, x.finish(4, 0, most + 1, -1), most + 1);
            t.due("out above limit " + limit, x.ride(4, 0, 0), 3);
            t.due("time above limit " + limit, x.ride(4, 0, 5), most + 1);
            t.due("due above limit " + limit, x.ride(4, 0, 2), Check.NONE);
        }
    }

    private static void takingBack(Check t) {
        JumpRing x = begun("fall 5;refusal 2 3;stood 10;");
        jumps(x, 0, 1);
        x.fall(4, 0);
        jumps(x, 3, 0, 0);
        x.jump(4, 0, 2);
        rideIs(t, "all of it", x, 1, 14, 1, 2, 1, -1, 0, 7);
        t.due("back 1", x.back(4, 0), 6);
        rideIs(t, "back 1", x, 1, 11, 3, 1, 1, -1, 0, 6);
        t.due("back 2", x.back(4, 0), 5);
        t.due("back 3", x.back(4, 0), 4);
        rideIs(t, "back 3", x, 1, 11, 1, 1, 1, -1, 0, 4);
        t.due("back 4", x.back(4, 0), 3);
        rideIs(t, "back 4", x, 1, 9, 2, 0, 0, -1, 0, 3);
        t.due("back 5", x.back(4, 0), 2);
        rideIs(t, "back 5", x, 1, 4, 2, 0, 0, -1, 0, 2);
        t.due("back 6", x.back(4, 0), 1);
        t.due("back 7", x.back(4, 0), 0);
        rideIs(t, "back 7", x, 1, 0, 0, 0, 0, -1, 0, 0);
        t.due("back 8", x.back(4, 0), Check.STATE);
        t.due("it has begun still", x.begin(4, 0), Check.STATE);
        t.due("it has begun: enter", x.enter(4, false), Check.STATE);

        x = begun("");
        jumps(x, 2, 2, 2);
        rideIs(t, "out", x, 3);
        t.due("back of one that is out", x.back(4, 0), 2);
        rideIs(t, "out no more", x, 1, 12, 0, 2);
        x.fall(4, 0);
        t.due("back of a fall", x.back(4, 0), 2);
        rideIs(t, "a fall taken back", x, 1, 12, 0, 2);
        jumps(x, 0, 0, 0, 0, 0, 0);
        x.finish(4, 0, 150, -1);
        t.due("back of a finish", x.back(4, 0), 8);
        rideIs(t, "a finish taken back", x, 1, 12, 6, 2, 0, -1, 0, 8);
        x.finish(4, 0, 100, -1);
        x.begin(4, 1);
        t.due("back of RIDE 0 when 1 has begun", x.back(4, 0), Check.STATE);
        t.due("back of RIDE 1 without events", x.back(4, 1), Check.STATE);
        x.retire(4, 1);
        t.due("back of RIDE 1", x.back(4, 1), 0);
        t.due("back of RIDE 0 still", x.back(4, 0), Check.STATE);
        t.due("another RIDER's", x.back(5, 0), Check.STATE);
    }

    private static void room(Check t) {
        JumpRing x = begun("fall 1;");
        for (int i = 0; i < 54; i++) {
            x.fall(4, 0);
        }
        jumps(x, 0, 0, 0, 0, 0);
        t.due("the 60th", x.jump(4, 0, 0), 6);
        t.due("events", x.ride(4, 0, 7), 60);
        t.due("finish of 60", x.finish(4, 0, 1, 1), Check.FULL);
        t.due("fall of 60", x.fall(4, 0), Check.FULL);
        t.due("retire of 60", x.retire(4, 0), Check.FULL);
        t.due("jump of 60, none is due", x.jump(4, 0, 0), Check.STATE);
        t.due("back of 60", x.back(4, 0), 59);
        x.fall(4, 0);
        t.due("jump of 60", x.jump(4, 0, 0), Check.FULL);
        t.due("finish of 60, a fence is due", x.finish(4, 0, 1, 1), Check.STATE);
        rideIs(t, "60", x, 1, 55, 5, 0, 0, -1, 0, 60);
        x.back(4, 0);
        x.back(4, 0);
        t.due("back to 58", x.ride(4, 0, 7), 58);
        x.fall(4, 0);
        x.fall(4, 0);
        t.due("3 of water comes ahead of FULL", x.jump(4, 0, 3), Check.RANGE);
        x.back(4, 0);
        t.due("retired as the 60th", x.retire(4, 0), 1);
        t.due("fall of 60 when out", x.fall(4, 0), Check.STATE);
    }

    private static void emptyCourse(Check t) {
        JumpRing x = new JumpRing();
        Check.course(x, 0, "start 5 5;finish 5 5;");
        x.enter(4, true);
        x.begin(4, 0);
        rideIs(t, "no fences", x, 1, 0, 0, 0, 0, -1, 0, 0);
        t.due("no fence to jump", x.jump(4, 0, 0), Check.STATE);
        t.due("finish in time", x.finish(4, 0, 0, -1), 0);
        rideIs(t, "no way", x, 2, 0, -1, 0, 0, 0, 0, 1);
        x.back(4, 0);
        x.finish(4, 0, 1, -1);
        rideIs(t, "no way, a tenth", x, 3, 1, -1, 0, 0, 1, 1, 1);
    }
}
