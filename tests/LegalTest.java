/** Promise 10: legal. */
public final class LegalTest {
    private static final String LINE = "start 0 0;fence 10 0 high 120 wide 150;fence 20 0 high 130;"
            + "fence 28 0 high 130 wide 140 joined;water 40 0 wide 400;finish 50 0;";

    public static void main(String[] args) {
        Check t = new Check("LegalTest");
        ranges(t);
        JumpRing x = new JumpRing();
        Check.course(x, 0, LINE);
        legal(t, x, "", 0);
        legal(t, x, "most 130 150;", 0);
        legal(t, x, "most 129 150;", 101);
        legal(t, x, "most 119 150;", 100);
        legal(t, x, "most 130 149;", 200);
        legal(t, x, "most 129 149;", 200);
        legal(t, x, "most 119 149;", 100);
        legal(t, x, "near 8 8;", 0);
        legal(t, x, "near 9 12;", 302);
        legal(t, x, "near 0 7;", 302);
        legal(t, x, "near 9 7;", 302);
        legal(t, x, "near 9 12;most 160 139;", 200);
        legal(t, x, "count 3 3;", 0);
        legal(t, x, "count 4 20;", 500);
        legal(t, x, "count 0 2;", 500);
        legal(t, x, "way 50;", 0);
        legal(t, x, "way 49;", 600);
        legal(t, x, "way 49;count 4 20;", 500);
        legal(t, x, "most 0 0;", 100);
        parts(t);
        distances(t);
        t.close();
    }

    private static void legal(Check t, JumpRing x, String laws, int want) {
        Check.laws(x, laws);
        t.due("legal by <" + laws + ">", x.legal(0), want);
    }

    private static void ranges(Check t) {
        JumpRing x = new JumpRing();
        t.due("none told", x.legal(0), Check.RANGE);
        t.due("legal(-1)", x.legal(-1), Check.RANGE);
        t.due("legal(2)", x.legal(2), Check.RANGE);
        Check.course(x, 1, LINE);
        t.due("the other one", x.legal(1), 0);
        t.due("none told still", x.legal(0), Check.RANGE);
        Check.course(x, 0, "start 0 0;finish 1 1;");
        t.due("no obstacles", x.legal(0), 500);
        Check.laws(x, "count 0 0;");
        t.due("no obstacles wanted", x.legal(0), 0);
    }

    private static void parts(Check t) {
        JumpRing x = new JumpRing();
        String three = "start 0 0;water 0 1 wide 1;fence 0 7 high 50;fence 6 7 high 50 joined;"
                + "fence 12 7 high 50 joined;";
        Check.course(x, 0, three + "finish 9 9;");
        t.due("three parts", x.legal(0), 0);
        Check.course(x, 0, three + "fence 18 7 high 50 joined;fence 24 7 high 50 joined;finish 9 9;");
        t.due("four parts", x.legal(0), 404);
        Check.course(x, 0, three + "fence 23 7 high 50 joined;finish 9 9;");
        t.due("a fourth one near enough", x.legal(0), 404);
        Check.course(x, 0, three + "fence 25 7 high 50 joined;finish 9 9;");
        t.due("a fourth one too far", x.legal(0), 304);
        Check.course(x, 0, three + "fence 18 7 high 50;fence 24 7 high 50 joined;finish 9 9;");
        t.due("three parts, then two", x.legal(0), 0);
    }

    private static void distances(Check t) {
        JumpRing x = new JumpRing();
        // 9 and 9: the root of 162 is 12.7, cut to 12
        Check.course(x, 0, "start 0 0;fence 0 0 high 50;fence 9 9 high 50 joined;finish 9 9;");
        t.due("cut metres", x.legal(0), 0);
        Check.course(x, 0, "start 0 0;fence 9 0 high 50;fence 5 4 high 50 joined;finish 9 9;");
        t.due("5 metres", x.legal(0), 301);
        Check.course(x, 0, "start 0 0;fence 9 0 high 50;fence 3 0 high 50 joined;finish 9 9;");
        t.due("6 metres", x.legal(0), 0);
        Check.course(x, 0, "start 0 0;fence 0 0 high 50;fence 13 0 high 50 joined;finish 9 9;");
        t.due("13 metres", x.legal(0), 301);
        Check.course(x, 0, "start 0 0;fence 0 0 high 50;fence 1 0 high 50;finish 9 9;");
        t.due("one that is not joined", x.legal(0), 0);
    }
}
