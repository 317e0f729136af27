/** Promises 22, 23, 24, 27: place, asked, placed, count. */
public final class PlacesTest {
    // 70 metres, 12 seconds; the jump off: 20 metres, 4 seconds.
    private static final String COURSE = "start 0 0;fence 10 0 high 120;fence 20 0 high 120;"
            + "fence 30 0 high 120;finish 70 0;";
    private static final String SHORT = "start 0 0;fence 10 0 high 100;finish 20 0;";

    public static void main(String[] args) {
        Check t = new Check("PlacesTest");
        nobody(t);
        withoutAgain(t);
        oneFirst(t);
        jumpOff(t);
        moving(t);
        ends(t);
        counts(t);
        t.close();
    }

    private static JumpRing ring(String laws) {
        JumpRing x = new JumpRing();
        Check.course(x, 0, COURSE);
        Check.course(x, 1, SHORT);
        Check.laws(x, laws);
        return x;
    }

    private static void places(Check t, String when, JumpRing x, int... want) {
        for (int r = 0; r < want.length; r++) {
            t.due(when + ": place(" + r + ")", x.place(r), want[r]);
        }
    }

    private static void order(Check t, String when, JumpRing x, int... want) {
        for (int i = 0; i < want.length; i++) {
            t.due(when + ": placed(" + i + ")", x.placed(i), want[i]);
        }
        t.due(when + ": placed behind", x.placed(want.length), Check.NONE);
        t.due(when + ": placed(-1)", x.placed(-1), Check.NONE);
    }

    private static void askedAre(Check t, String when, JumpRing x, int... want) {
        int sum = 0;
        for (int r = 0; r < want.length; r++) {
            t.due(when + ": asked(" + r + ")", x.asked(r), want[r]);
            sum += want[r];
        }
        t.due(when + ": count(5)", x.count(5), sum);
    }

    private static void nobody(Check t) {
        JumpRing x = ring("");
        int[] none = {0, -1, 30, Integer.MIN_VALUE};
        for (int r : none) {
            t.due("place of none", x.place(r), Check.RANGE);
            t.due("asked of none", x.asked(r), Check.RANGE);
        }
        x.enter(0, true);
        places(t, "entered", x, Check.NONE);
        askedAre(t, "entered", x, 0);
        x.begin(0, 0);
        places(t, "begun", x, Check.NONE);
        x.retire(0, 0);
        places(t, "out", x, Check.NONE);
        order(t, "out", x);
        x.enter(1, true);
        t.due("placed(max)", x.placed(Integer.MAX_VALUE), Check.NONE);
    }

    private static void withoutAgain(Check t) {
        JumpRing x = ring("again none;");
        Check.ridden(x, 0, 0, 1, 90);
        Check.ridden(x, 1, 0, 0, 110);
        Check.ridden(x, 2, 0, 0, 100);
        Check.ridden(x, 3, 0, 0, 110);
        Check.ridden(x, 4, 0, 2, 10);
        Check.ridden(x, 5, 0, 0, 241);
        Check.ridden(x, 6, 0, 1, 89);
        places(t, "again none", x, 5, 2, 1, 2, 6, -1, 4);
        order(t, "again none", x, 2, 1, 3, 6, 0, 4);
        askedAre(t, "again none", x, 0, 0, 0, 0, 0, 0, 0);
        Check.ridden(x, 3, 1, 0, 10);
        places(t, "a RIDE 1 tells nothing", x, 5, 2, 1, 2, 6, -1, 4);
    }

    private static void oneFirst(Check t) {
        JumpRing x = ring("");
        Check.ridden(x, 0, 0, 1, 90);
        Check.ridden(x, 1, 0, 0, 110);
        Check.ridden(x, 2, 0, 1, 80);
        places(t, "one first", x, 3, 1, 2);
        askedAre(t, "one first", x, 0, 0, 0);
        Check.ridden(x, 2, 1, 0, 10);
        Check.ridden(x, 0, 1, 0, 5);
        places(t, "who wasn't asked", x, 3, 1, 2);
        order(t, "one first", x, 1, 2, 0);
    }

    private static void jumpOff(Check t) {
        JumpRing x = ring("");
        Check.ridden(x, 0, 0, 1, 90);
        for (int r = 1; r <= 6; r++) {
            Check.ridden(x, r, 0, 0, 120 - r);
        }
        Check.ridden(x, 7, 0, 1, 80);
        askedAre(t, "six", x, 0, 1, 1, 1, 1, 1, 1, 0);
        places(t, "six alike", x, 8, 1, 1, 1, 1, 1, 1, 7);
        order(t, "six alike", x, 1, 2, 3, 4, 5, 6, 7, 0);
        Check.ridden(x, 6, 1, 1, 30);
        places(t, "one with a rail", x, 8, 2, 2, 2, 2, 2, 1, 7);
        Check.ridden(x, 5, 1, 0, 40);
        places(t, "one clear", x, 8, 3, 3, 3, 3, 1, 2, 7);
        Check.ridden(x, 4, 1, 0, 39);
        places(t, "one faster", x, 8, 4, 4, 4, 1, 2, 3, 7);
        x.begin(3, 1);
        places(t, "one on its way", x, 8, 4, 4, 4, 1, 2, 3, 7);
        x.retire(3, 1);
        places(t, "one out", x, 8, 4, 4, 4, 1, 2, 3, 7);
        Check.ridden(x, 2, 1, 0, 81);
        t.due("above the limit", x.ride(2, 1, 0), 3);
        places(t, "one above the limit", x, 8, 4, 4, 4, 1, 2, 3, 7);
        Check.ridden(x, 1, 1, 0, 40);
        places(t, "two alike", x, 8, 2, 5, 5, 1, 2, 4, 7);
        order(t, "two alike", x, 4, 1, 5, 6, 2, 3, 7, 0);
        Check.ridden(x, 7, 1, 0, 1);
        places(t, "who wasn't asked stays", x, 8, 2, 5, 5, 1, 2, 4, 7);
        askedAre(t, "still", x, 0, 1, 1, 1, 1, 1, 1, 0);
    }

    private static void moving(Check t) {
        JumpRing x = ring("");
        Check.ridden(x, 0, 0, 1, 90);
        Check.ridden(x, 1, 0, 1, 80);
        askedAre(t, "both with a rail", x, 1, 1);
        Check.ridden(x, 2, 0, 0, 100);
        askedAre(t, "a clear one comes", x, 0, 0, 0);
        places(t, "a clear one comes", x, 3, 2, 1);
        x.back(2, 0);
        askedAre(t, "it is taken back", x, 1, 1, 0);
        places(t, "it is taken back", x, 1, 1, -1);
        x.finish(2, 0, 150, -1);
        places(t, "late ones part too", x, 3, 2, 1);
        t.due("faults", x.ride(2, 0, 1), 1);
        Check.ridden(x, 3, 0, 0, 121);
        askedAre(t, "late ones alike", x, 0, 0, 1, 1);
        places(t, "late ones alike", x, 4, 3, 1, 1);
    }

    /** The first and the last RIDER, each call alone behind a change. */
    private static void ends(Check t) {
        JumpRing x = ring("");
        Check.ridden(x, 29, 0, 0, 100);
        Check.ridden(x, 0, 0, 0, 110);
        t.due("asked(0)", x.asked(0), 1);
        x.back(0, 0);
        t.due("asked(29) alone", x.asked(29), 0);
        x.finish(0, 0, 100, -1);
        t.due("placed(0)", x.placed(0), 0);
        t.due("placed(1)", x.placed(1), 29);
        Check.ridden(x, 15, 0, 0, 100);
        t.due("placed(2)", x.placed(2), 29);
        t.due("count(5)", x.count(5), 3);
        x = ring("");
        Check.ridden(x, 0, 0, 0, 110);
        Check.ridden(x, 1, 0, 1, 100);
        Check.ridden(x, 2, 0, 1, 100);
        t.due("the first RIDER alone has the fewest", x.asked(1), 0);
        t.due("and is first", x.place(0), 1);
        t.due("two alike behind it", x.place(2), 2);
    }

    private static void counts(Check t) {
        JumpRing x = ring("");
        x.enter(9, true);
        Check.ridden(x, 0, 0, 0, 100);
        Check.ridden(x, 1, 0, 0, 100);
        Check.ridden(x, 2, 0, 0, 241);
        Check.ridden(x, 0, 1, 0, 30);
        Check.ridden(x, 1, 1, 0, 81);
        x.enter(3, true);
        x.begin(3, 0);
        x.feed(0, 0, 0, 0, 0);
        int[] want = {5, 4, 2, 2, 1, 2, 20};
        for (int what = 0; what < want.length; what++) {
            t.due("count(" + what + ")", x.count(what), want[what]);
        }
        t.due("count(7)", x.count(7), Check.NONE);
        t.due("count(-1)", x.count(-1), Check.NONE);
        x.back(1, 1);
        t.due("count(2) taken back", x.count(2), 2);
        x.back(0, 1);
        t.due("count(4) taken back", x.count(4), 0);
    }
}
