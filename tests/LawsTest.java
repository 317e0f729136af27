/** Promises 5, 6, 7: laws, fault, law. */
public final class LawsTest {
    public static void main(String[] args) {
        Check t = new Check("LawsTest");
        eachLine(t);
        untold(t);
        refusals(t);
        words(t);
        bounds(t);
        faults(t);
        t.close();
    }

    private static void eachLine(Check t) {
        JumpRing x = new JumpRing();
        t.due("all lines", Check.laws(x, "team 2;watch greater;again none;stood 7;limit 150;late 2 5;fall 8;"
                + "refusal 1 2 3;wet 5;down 6;wheel 400;way 800;count 2 19;near 7 13;most 161 201;"), 15);
        int[] want = {161, 201, 7, 13, 2, 19, 800, 400, 6, 5, 1, 2, 3, 8, 2, 5, 150, 7, 0, 2, 2};
        for (int i = 0; i < want.length; i++) {
            t.due("law(" + i + ")", x.law(i), want[i]);
        }
        int[] none = {-1, 21, Integer.MAX_VALUE, Integer.MIN_VALUE};
        for (int what : none) {
            t.due("law(" + what + ")", x.law(what), -9);
        }
    }

    private static void untold(Check t) {
        JumpRing x = new JumpRing();
        Check.laws(x, "down 9;team 1;refusal 7;");
        t.due("a line alone", Check.laws(x, "wet 9;"), 1);
        t.due("down is as untold", x.law(8), 4);
        t.due("wet", x.law(9), 9);
        t.due("team is as untold", x.law(20), 3);
        t.due("refusal is as untold", x.law(11), 8);
        t.due("no line", Check.laws(x, ""), 0);
        t.due("wet is as untold", x.law(9), 4);
        t.due("blanks alone", Check.laws(x, " \n "), 0);
    }

    private static void refusals(Check t) {
        JumpRing x = new JumpRing();
        Check.laws(x, "refusal 3;");
        t.due("one: first", x.law(10), 3);
        t.due("one: second", x.law(11), Check.NONE);
        t.due("one: third", x.law(12), Check.NONE);
        Check.laws(x, "refusal 3 0;");
        t.due("two: second", x.law(11), 0);
        t.due("two: third", x.law(12), Check.NONE);
        Check.laws(x, "refusal 0 999 1;");
        t.due("three: first", x.law(10), 0);
        t.due("three: second", x.law(11), 999);
        t.due("three: third", x.law(12), 1);
        t.lawsFault("refusal;", 1, 7);
        t.lawsFault("refusal 1 2 3 4;", 1, 14);
        t.lawsFault("refusal out;", 1, 8);
        t.lawsFault("refusal 1 out;", 1, 10);
        t.lawsFault("refusal 1 1000;", 2, 10);
        t.lawsFault("refusal 1 2 1000;", 2, 12);
        t.lawsFault("refusal 1 22222;", 1, 10);
    }

    private static void words(Check t) {
        JumpRing x = new JumpRing();
        Check.laws(x, "fall 0;again first;watch first;");
        t.due("fall 0", x.law(13), 0);
        t.due("again first", x.law(18), 1);
        t.due("watch first", x.law(19), 0);
        Check.laws(x, "fall out;again none;watch lesser;");
        t.due("fall out", x.law(13), Check.NONE);
        t.due("again none", x.law(18), 0);
        t.due("watch lesser", x.law(19), 1);
        t.lawsFault("fall;", 1, 4);
        t.lawsFault("fall none;", 1, 5);
        t.lawsFault("fall out 4;", 1, 9);
        t.lawsFault("again;", 1, 5);
        t.lawsFault("again 1;", 1, 6);
        t.lawsFault("again lesser;", 1, 6);
        t.lawsFault("watch none;", 1, 6);
        t.lawsFault("watch 1;", 1, 6);
        t.lawsFault("watch first first;", 1, 12);
    }

    private static void bounds(Check t) {
        String[] one = {"way", "down", "wet", "stood", "fall", "refusal"};
        for (String word : one) {
            bound(t, word + " ", 0, 999, "");
        }
        String[] two = {"most", "near", "count"};
        for (String word : two) {
            bound(t, word + " ", 0, 999, " 5");
            bound(t, word + " 5 ", 0, 999, "");
        }
        bound(t, "late ", 0, 999, " 5");
        bound(t, "late 5 ", 1, 99, "");
        bound(t, "wheel ", 1, 999, "");
        bound(t, "limit ", 100, 999, "");
        bound(t, "team ", 1, 4, "");
    }

    private static void bound(Check t, String ahead, int least, int most, String behind) {
        t.lawsFault(ahead + least + behind + ";", 0, Check.NONE);
        t.lawsFault(ahead + most + behind + ";", 0, Check.NONE);
        t.lawsFault(ahead + (most + 1) + behind + ";", 2, ahead.length());
        t.lawsFault(ahead + "9999" + behind + ";", 2, ahead.length());
        t.lawsFault(ahead + "10000" + behind + ";", 1, ahead.length());
        if (least > 0) {
            t.lawsFault(ahead + (least - 1) + behind + ";", 2, ahead.length());
        }
        t.lawsFault(ahead + ";", 1, ahead.length());
        t.lawsFault(ahead, 1, ahead.length());
    }

    private static void faults(Check t) {
        t.lawsFault(";", 1, 0);
        t.lawsFault("5;", 1, 0);
        t.lawsFault("downs 5;", 1, 0);
        t.lawsFault("dow 5;", 1, 0);
        t.lawsFault("down 5", 1, 6);
        t.lawsFault("down 5  ", 1, 8);
        t.lawsFault("down 5 6;", 1, 7);
        t.lawsFault("down 5;;", 1, 7);
        t.lawsFault("most 5;", 1, 6);
        t.lawsFault("down5;wet6;", 0, Check.NONE);
        t.lawsFault("down 5;down 5;", 4, 7);
        t.lawsFault("down 5;down", 4, 7);
        t.lawsFault("down 5;wet 4;\n down 1000;", 4, 15);
        t.lawsFault("again first;again none;", 4, 12);
        t.lawsFault("down 5;downdown", 1, 7);
        t.lawsFault("down 1000;down 5;", 2, 5);
        t.lawsFault("start 0 0;finish 1 1;", 1, 0);
        JumpRing x = new JumpRing();
        Check.laws(x, "down 7;");
        t.due("a fault", Check.laws(x, "down 8;wet 9;down"), Check.NONE);
        t.due("laws stay: down", x.law(8), 7);
        t.due("laws stay: wet", x.law(9), 4);
        Check.course(x, 0, "start 0 0;finish 1 1;");
        x.enter(0, true);
        x.begin(0, 0);
        t.due("laws when begun", Check.laws(x, "down 8;"), Check.STATE);
        t.due("laws stay when begun", x.law(8), 7);
    }
}
