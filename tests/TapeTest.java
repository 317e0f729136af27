/** Promises 1, 2, 3: a new object, feed, end; and what reading does to the tape. */
public final class TapeTest {
    public static void main(String[] args) {
        Check t = new Check("TapeTest");
        newObject(t);
        feeding(t);
        ending(t);
        byteOrder(t);
        reading(t);
        t.close();
    }

    private static void newObject(Check t) {
        JumpRing x = new JumpRing();
        int[] laws = {160, 200, 6, 12, 1, 20, 700, 350, 4, 4, 4, 8, -1, -1, 1, 4, 200, 6, 1, 0, 3};
        for (int i = 0; i < laws.length; i++) {
            t.due("law(" + i + ") when new", x.law(i), laws[i]);
        }
        for (int i = 0; i <= 6; i++) {
            t.due("count(" + i + ") when new", x.count(i), 0);
        }
        for (int c = 0; c < 2; c++) {
            t.due("about when new", x.about(c, 0), Check.NONE);
            t.due("legal when new", x.legal(c), Check.RANGE);
            t.due("fence when new", x.fence(c, 0, 0), Check.NONE);
            t.due("shared when new", x.shared(c, 0, 0), Check.NONE);
        }
        t.due("fault(0) when new", x.fault(0), 0);
        t.due("fault(1) when new", x.fault(1), Check.NONE);
        t.due("orders when new", x.orders(), 1);
        t.due("lot when new", x.lot(0, 0), Check.NONE);
        t.due("placed when new", x.placed(0), Check.NONE);
        t.due("place when new", x.place(0), Check.RANGE);
        t.due("begin when new", x.begin(0, 0), Check.RANGE);
    }

    private static void feeding(Check t) {
        JumpRing x = new JumpRing();
        for (int i = 1; i <= 100; i++) {
            t.due("feed " + i, x.feed(i, i, i, i, i), 20 * i);
        }
        t.due("feed behind 2000", x.feed(0, 0, 0, 0, 0), Check.FULL);
        t.due("count(6) when full", x.count(6), 2000);
        t.due("end(1981)", x.end(1981), 1981);
        t.due("feed of 1981", x.feed(0, 0, 0, 0, 0), Check.FULL);
        t.due("count(6) of 1981", x.count(6), 1981);
        t.due("end(1980)", x.end(1980), 1980);
        t.due("feed of 1980", x.feed(0, 0, 0, 0, 0), 2000);
    }

    private static void ending(Check t) {
        JumpRing x = new JumpRing();
        t.due("end(0) of none", x.end(0), 0);
        t.due("end(1) of none", x.end(1), Check.NONE);
        x.feed(0, 0, 0, 0, 0);
        t.due("end(21)", x.end(21), Check.NONE);
        t.due("end(-1)", x.end(-1), Check.NONE);
        t.due("end(min)", x.end(Integer.MIN_VALUE), Check.NONE);
        t.due("end(max)", x.end(Integer.MAX_VALUE), Check.NONE);
        t.due("count(6) behind refused ends", x.count(6), 20);
        t.due("end(20)", x.end(20), 20);
        t.due("end(7)", x.end(7), 7);
        t.due("count(6)", x.count(6), 7);
        t.due("end(8) of 7", x.end(8), Check.NONE);
        t.due("feed of 7", x.feed(0, 0, 0, 0, 0), 27);
    }

    private static void byteOrder(Check t) {
        JumpRing x = new JumpRing();
        // "down", " 5; ", "wet ", "6;  ", "    "
        t.due("feed", x.feed(0x646f776e, 0x20353b20, 0x77657420, 0x363b2020, 0x20202020), 20);
        t.due("laws()", x.laws(), 2);
        t.due("down", x.law(8), 5);
        t.due("wet", x.law(9), 6);
        // A text fed in two parts, cut at a byte that no int ends with.
        Check.tape(x, "down 1");
        x.feed(0x323b0a0a, 0x0a0a0a0a, 0x20202020, 0x20202020, 0x20202020);
        t.due("laws() of two parts", x.laws(), 1);
        t.due("down of two parts", x.law(8), 12);
        // Bytes of 128 and more are no tokens, not even for the lack of a sign.
        x.feed(0xffffffff, 0xffffffff, 0xffffffff, 0xffffffff, 0xffffffff);
        t.due("laws() of 255s", x.laws(), Check.NONE);
        t.due("fault(1) of 255s", x.fault(1), 0);
    }

    private static void reading(Check t) {
        JumpRing x = new JumpRing();
        Check.tape(x, "down 5;");
        t.due("laws()", x.laws(), 1);
        t.due("count(6) behind laws", x.count(6), 0);
        Check.tape(x, "down 5");
        t.due("laws() with a fault", x.laws(), Check.NONE);
        t.due("count(6) behind a fault", x.count(6), 0);
        Check.tape(x, "start 0 0;finish 3 4;");
        t.due("course(2)", x.course(2), Check.RANGE);
        t.due("course(-1)", x.course(-1), Check.RANGE);
        t.due("count(6): RANGE reads nothing", x.count(6), 21);
        t.due("course(0)", x.course(0), 0);
        t.due("count(6) behind course", x.count(6), 0);
        x.enter(0, true);
        x.begin(0, 0);
        Check.tape(x, "down 5;");
        t.due("laws() when begun", x.laws(), Check.STATE);
        t.due("course(0) when begun", x.course(0), Check.STATE);
        t.due("course(2) when begun", x.course(2), Check.RANGE);
        t.due("count(6): STATE reads nothing", x.count(6), 7);
    }
}
