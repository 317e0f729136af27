/** Promises 11 to 14: enter, team, orders, lot. */
public final class RidersTest {
    public static void main(String[] args) {
        Check t = new Check("RidersTest");
        entering(t);
        teams(t);
        orders(t);
        lots(t);
        t.close();
    }

    private static void entering(Check t) {
        JumpRing x = new JumpRing();
        t.due("enter(0)", x.enter(0, true), 1);
        t.due("enter(0) again", x.enter(0, true), 0);
        t.due("enter(29)", x.enter(29, true), 1);
        t.due("enter(30)", x.enter(30, true), Check.RANGE);
        t.due("enter(-1)", x.enter(-1, true), Check.RANGE);
        t.due("enter(-1) off", x.enter(-1, false), Check.RANGE);
        t.due("enter(5) off", x.enter(5, false), 0);
        t.due("count", x.count(0), 2);
        t.due("enter(29) off", x.enter(29, false), 1);
        t.due("count behind", x.count(0), 1);
        Check.course(x, 0, "start 0 0;finish 1 1;");
        x.begin(0, 0);
        t.due("off when begun", x.enter(0, false), Check.STATE);
        t.due("on when begun", x.enter(0, true), Check.STATE);
        t.due("another one", x.enter(1, true), 1);
        t.due("still entered", x.count(0), 2);
    }

    private static void teams(Check t) {
        JumpRing x = new JumpRing();
        t.due("not entered", x.team(0, 0), Check.RANGE);
        for (int r = 0; r < 6; r++) {
            x.enter(r, true);
        }
        t.due("team(0, 7)", x.team(0, 7), Check.RANGE);
        t.due("team(0, -2)", x.team(0, -2), Check.RANGE);
        t.due("team(30, 0)", x.team(30, 0), Check.RANGE);
        t.due("team(-1, 0)", x.team(-1, 0), Check.RANGE);
        t.due("of none to none", x.team(0, Check.NONE), Check.NONE);
        for (int r = 0; r < 4; r++) {
            t.due("into 6", x.team(r, 6), Check.NONE);
        }
        t.due("a fifth", x.team(4, 6), Check.FULL);
        t.due("a fifth is of none", x.team(4, 0), Check.NONE);
        t.due("of another into the full one", x.team(4, 6), Check.FULL);
        t.due("it stays where it was", x.team(4, 0), 0);
        t.due("one of four into its own", x.team(3, 6), 6);
        t.due("four", x.teamed(6, 0), 4);
        t.due("out of 6", x.team(3, Check.NONE), 6);
        t.due("three", x.teamed(6, 0), 3);
        t.due("now there is room", x.team(4, 6), 0);
        t.due("off", x.enter(4, false), 1);
        t.due("three behind", x.teamed(6, 0), 3);
        t.due("on again", x.enter(4, true), 1);
        t.due("three still", x.teamed(6, 0), 3);
        t.due("of no team any more", x.team(4, 1), Check.NONE);
        Check.course(x, 0, "start 0 0;finish 1 1;");
        x.begin(4, 0);
        t.due("when begun", x.team(4, 2), 1);
    }

    private static void orders(Check t) {
        JumpRing x = new JumpRing();
        int product = 1;
        for (int n = 1; n <= 12; n++) {
            x.enter(2 * n, true);
            product *= n;
            t.due("orders of " + n, x.orders(), product);
        }
        t.due("lot of 12, last, first", x.lot(product - 1, 0), 24);
        t.due("lot of 12, last, last", x.lot(product - 1, 11), 2);
        t.due("lot of 12, no such number", x.lot(product, 0), Check.RANGE);
        x.enter(1, true);
        t.due("orders of 13", x.orders(), Check.FULL);
        t.due("lot of 13", x.lot(0, 0), Check.FULL);
        t.due("lot of 13, the last one", x.lot(0, 12), Check.FULL);
        t.due("lot of 13, the greatest", x.lot(Integer.MAX_VALUE, 0), Check.FULL);
        t.due("lot of 13, no such i", x.lot(0, 13), Check.NONE);
        x.enter(24, false);
        t.due("orders of 12 again", x.orders(), product);
        t.due("lot of 12 others", x.lot(0, 0), 1);
    }

    private static void lots(Check t) {
        JumpRing x = new JumpRing();
        t.due("none entered, i 0", x.lot(0, 0), Check.NONE);
        int[] riders = {0, 7, 11, 29};
        for (int r : riders) {
            x.enter(r, true);
        }
        int number = 0;
        for (int a : riders) {
            for (int b : riders) {
                for (int c : riders) {
                    for (int d : riders) {
                        if (a != b && a != c && a != d && b != c && b != d && c != d) {
                            t.due("lot " + number + ", 0", x.lot(number, 0), a);
                            t.due("lot " + number + ", 1", x.lot(number, 1), b);
                            t.due("lot " + number + ", 2", x.lot(number, 2), c);
                            t.due("lot " + number + ", 3", x.lot(number, 3), d);
                            number++;
                        }
                    }
                }
            }
        }
        t.due("all were seen", number, 24);
        t.due("number 24", x.lot(24, 0), Check.RANGE);
        t.due("number -1", x.lot(-1, 0), Check.RANGE);
        t.due("i -1", x.lot(0, -1), Check.NONE);
        t.due("i 4", x.lot(0, 4), Check.NONE);
        t.due("no such i comes first", x.lot(24, 4), Check.NONE);
    }
}
