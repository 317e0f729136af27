import java.nio.charset.StandardCharsets;

/** What all tests of the project use: a book of wrong answers, and ways to tell texts and ride. */
final class Check {
    static final int NONE = JumpRing.NONE;
    static final int RANGE = JumpRing.RANGE;
    static final int FULL = JumpRing.FULL;
    static final int STATE = JumpRing.STATE;

    private final String name;
    private int right = 0;
    private int wrong = 0;

    Check(String name) {
        this.name = name;
    }

    void due(String call, long got, long want) {
        if (got == want) {
            right++;
            return;
        }
        wrong++;
        System.out.println(name + ": " + call + " answered " + got + ", due is " + want);
    }

    void dueTrue(String what, boolean holds) {
        due(what, holds ? 1 : 0, 1);
    }

    void close() {
        System.out.println(name + ": " + right + " as due, " + wrong + " not");
        if (wrong != 0) {
            System.exit(1);
        }
    }

    /** Puts a text on an empty tape. */
    static void tape(JumpRing x, String text) {
        tape(x, text.getBytes(StandardCharsets.ISO_8859_1));
    }

    static void tape(JumpRing x, byte[] text) {
        for (int from = 0; from < text.length; from += 20) {
            x.feed(word(text, from), word(text, from + 4), word(text, from + 8),
                    word(text, from + 12), word(text, from + 16));
        }
        x.end(text.length);
    }

    private static int word(byte[] text, int from) {
        int word = 0;
        for (int i = from; i < from + 4; i++) {
            word = word << 8 | (i < text.length ? text[i] & 255 : 0);
        }
        return word;
    }

    static int course(JumpRing x, int c, String text) {
        tape(x, text);
        return x.course(c);
    }

    static int laws(JumpRing x, String text) {
        tape(x, text);
        return x.laws();
    }

    /** That a course's text has this fault; kind 0 and place NONE: none. */
    void courseFault(String text, int kind, int place) {
        JumpRing x = new JumpRing();
        int answer = course(x, 0, text);
        due("course of <" + text + ">: none", answer == NONE ? 1 : 0, kind == 0 ? 0 : 1);
        due("course of <" + text + ">: fault(0)", x.fault(0), kind);
        due("course of <" + text + ">: fault(1)", x.fault(1), place);
    }

    void lawsFault(String text, int kind, int place) {
        JumpRing x = new JumpRing();
        int answer = laws(x, text);
        due("laws of <" + text + ">: none", answer == NONE ? 1 : 0, kind == 0 ? 0 : 1);
        due("laws of <" + text + ">: fault(0)", x.fault(0), kind);
        due("laws of <" + text + ">: fault(1)", x.fault(1), place);
    }

    /** A whole clear ride but for so many fences down from the first on. */
    static int ridden(JumpRing x, int r, int k, int downs, int time) {
        x.enter(r, true);
        x.begin(r, k);
        int fences = x.about(k, 0);
        for (int f = 0; f < fences; f++) {
            x.jump(r, k, f < downs ? 1 : 0);
        }
        return x.finish(r, k, time, NONE);
    }
}
