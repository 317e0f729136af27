import java.nio.charset.StandardCharsets;
import java.util.Random;

/** All promises: runs of 512 calls by lot, each answer held against the model's. */
public final class ModelTest {
    private static final int RUNS = 3000;
    private static final int CALLS = 512;
    private static final String[] WORDS = {"start", "finish", "fence", "water", "high", "wide", "joined", "most",
        "near", "count", "way", "wheel", "down", "wet", "refusal", "fall", "late", "limit", "stood", "again",
        "watch", "team", "out", "none", "first", "lesser", "greater", ";", ";", "0", "1", "50", "99", "100",
        "200", "201", "450", "451", "999", "1000", "00000", "x", "\t", "\n", "A", "\u00e9"};

    private final Random lot;
    private final int run;
    private final JumpRing x = new JumpRing();
    private final Model m = new Model();
    private final Check t;
    private int calls = 0;
    private int riders;

    private ModelTest(int run, Check t) {
        this.run = run;
        this.lot = new Random(run);
        this.t = t;
        this.riders = 1 + lot.nextInt(lot.nextInt(4) == 0 ? 30 : 8);
    }

    public static void main(String[] args) {
        Check t = new Check("ModelTest");
        for (int run = 0; run < RUNS; run++) {
            new ModelTest(run, t).play();
        }
        t.close();
    }

    private void play() {
        if (lot.nextInt(4) != 0) {
            text(goodCourse(), 0);
            text(goodCourse(), 1);
            text(goodLaws(), 2);
            for (int r = 0; r < riders; r++) {
                enter(r, true);
            }
        }
        boolean early = lot.nextInt(4) == 0;
        while (calls < CALLS) {
            if (early) {
                tellSome();
            } else if (lot.nextInt(12) == 0) {
                any();
            } else {
                rideSome();
            }
        }
    }

    private void due(String call, int got, int want) {
        calls++;
        t.due("run " + run + ", call " + calls + ": " + call, got, want);
    }

    private int odd() {
        int[] some = {-3, -2, -1, 0, 1, 2, 3, 4, 5, 6, 7, 8, 20, 21, 29, 30, 60, Integer.MAX_VALUE, Integer.MIN_VALUE};
        return some[lot.nextInt(some.length)];
    }

    private int rider() {
        return lot.nextInt(40) == 0 ? odd() : lot.nextInt(riders);
    }

    private int numberOfRide() {
        int by = lot.nextInt(40);
        return by == 0 ? odd() : by < 12 ? 1 : 0;
    }

    private String joinedBy(String... parts) {
        StringBuilder all = new StringBuilder();
        for (String part : parts) {
            all.append(part).append(lot.nextInt(8) == 0 ? "\n " : " ");
        }
        return all.toString();
    }

    private String spot() {
        return lot.nextInt(100) + " " + lot.nextInt(100);
    }

    private String near() {
        return lot.nextInt(14) + " " + lot.nextInt(14);
    }

    private String goodCourse() {
        StringBuilder all = new StringBuilder(joinedBy("start", spot(), ";"));
        boolean mayJoin = false;
        int fences = lot.nextInt(5) == 0 ? lot.nextInt(21) : 1 + lot.nextInt(5);
        for (int f = 0; f < fences; f++) {
            boolean close = lot.nextBoolean();
            if (lot.nextInt(5) == 0) {
                all.append(joinedBy("water", spot(), "wide", "" + lot.nextInt(451), ";"));
                mayJoin = false;
            } else {
                all.append(joinedBy("fence", close ? near() : spot(), "high", "" + (50 + lot.nextInt(120))));
                all.append(lot.nextBoolean() ? joinedBy("wide", "" + lot.nextInt(230)) : "");
                all.append(mayJoin && lot.nextBoolean() ? "joined;" : ";");
                mayJoin = true;
            }
        }
        return all + joinedBy("finish", spot(), ";");
    }

    private String goodLaws() {
        String[] lines = {
            "most " + (50 + lot.nextInt(150)) + " " + lot.nextInt(250), "near " + lot.nextInt(8) + " " + lot.nextInt(20),
            "count " + lot.nextInt(4) + " " + lot.nextInt(20), "way " + lot.nextInt(1000),
            "wheel " + (1 + lot.nextInt(lot.nextBoolean() ? 999 : 50)), "down " + lot.nextInt(6), "wet " + lot.nextInt(6),
            "refusal " + lot.nextInt(5) + (lot.nextBoolean() ? " " + lot.nextInt(5) : "")
                    + (lot.nextBoolean() ? " " + lot.nextInt(5) : ""),
            lot.nextInt(4) == 0 ? "fall out" : "fall " + lot.nextInt(9), "late " + lot.nextInt(4) + " " + (1 + lot.nextInt(99)),
            "limit " + (100 + lot.nextInt(900)), "stood " + lot.nextInt(20),
            "again " + (lot.nextBoolean() ? "none" : "first"),
            "watch " + new String[] {"first", "lesser", "greater"}[lot.nextInt(3)], "team " + (1 + lot.nextInt(4)),
        };
        StringBuilder all = new StringBuilder();
        for (String line : lines) {
            if (lot.nextInt(3) != 0) {
                all.append(line).append(lot.nextBoolean() ? ";" : " ; ");
            }
        }
        return all.toString();
    }

    /** Changes, drops or adds a token or some, or cuts the text. */
    private String spoiled(String text) {
        String[] parts = text.replace(";", " ; ").trim().split("[ \n]+");
        StringBuilder all = new StringBuilder();
        int where = lot.nextInt(parts.length);
        for (int i = 0; i < parts.length; i++) {
            int how = i == where ? lot.nextInt(4) : 3;
            String other = WORDS[lot.nextInt(WORDS.length)];
            all.append(how == 0 ? other + " " : how == 1 ? "" : how == 2 ? other + " " + parts[i] + " " : parts[i] + " ");
        }
        return lot.nextInt(4) == 0 ? all.substring(0, lot.nextInt(all.length() + 1)) : all.toString();
    }

    private String nonsense() {
        StringBuilder all = new StringBuilder();
        for (int i = lot.nextInt(9); i > 0; i--) {
            all.append(WORDS[lot.nextInt(WORDS.length)]).append(lot.nextBoolean() ? " " : "");
        }
        return all.toString();
    }

    private void text(String text, int to) {
        byte[] bytes = text.getBytes(StandardCharsets.ISO_8859_1);
        for (int from = 0; from < bytes.length; from += 20) {
            int[] w = new int[5];
            for (int i = 0; i < 20; i++) {
                w[i / 4] = w[i / 4] << 8 | (from + i < bytes.length ? bytes[from + i] & 255 : 0);
            }
            due("feed", x.feed(w[0], w[1], w[2], w[3], w[4]), m.feed(w[0], w[1], w[2], w[3], w[4]));
        }
        due("end", x.end(bytes.length), m.end(bytes.length));
        if (to == 2) {
            due("laws() of <" + text + ">", x.laws(), m.laws());
        } else {
            due("course(" + to + ") of <" + text + ">", x.course(to), m.course(to));
        }
        due("fault(0) of <" + text + ">", x.fault(0), m.fault(0));
        due("fault(1) of <" + text + ">", x.fault(1), m.fault(1));
    }

    private void tellSome() {
        int to = lot.nextInt(3);
        String good = to == 2 ? goodLaws() : goodCourse();
        int how = lot.nextInt(6);
        text(how == 0 ? nonsense() : how == 1 || good.isEmpty() ? good : spoiled(good), to);
        for (int i = lot.nextInt(12); i > 0; i--) {
            any();
        }
    }

    private void enter(int r, boolean on) {
        due("enter(" + r + ", " + on + ")", x.enter(r, on), m.enter(r, on));
    }

    /** Steps that mostly lead a ride to its finish. */
    private void rideSome() {
        int r = rider();
        int k = numberOfRide();
        switch (lot.nextInt(24)) {
            case 0 -> due("fall(" + r + ", " + k + ")", x.fall(r, k), m.fall(r, k));
            case 1 -> due("back(" + r + ", " + k + ")", x.back(r, k), m.back(r, k));
            case 2 -> due("team(" + r + ")", x.team(r, run % 7), m.team(r, run % 7));
            case 3 -> {
                int to = lot.nextInt(9) - 1;
                due("team(" + r + ", " + to + ")", x.team(r, to), m.team(r, to));
            }
            case 4, 5, 6 -> through(r, k);
            case 7, 8 -> any();
            case 9, 10 -> due("begin(" + r + ", " + k + ")", x.begin(r, k), m.begin(r, k));
            case 11 -> due("place(" + r + ")", x.place(r), m.place(r));
            default -> jump(r, k, lot.nextInt(6) == 0 ? lot.nextInt(4) : 0);
        }
    }

    private void jump(int r, int k, int how) {
        due("jump(" + r + ", " + k + ", " + how + ")", x.jump(r, k, how), m.jump(r, k, how));
    }

    private void through(int r, int k) {
        due("begin(" + r + ", " + k + ")", x.begin(r, k), m.begin(r, k));
        for (int i = 0; i < 25 && m.ride(r, k, 0) == 1 && m.ride(r, k, 2) < m.about(k, 0) && calls < CALLS; i++) {
            jump(r, k, lot.nextInt(10) == 0 ? 1 + lot.nextInt(3) : 0);
        }
        int allowed = Math.max(1, m.about(k, 3)) * 10;
        int first = lot.nextInt(6) == 0 ? -1 : Math.min(100000, lot.nextInt(3) == 0 ? allowed : lot.nextInt(allowed * 2 + 5));
        int second = lot.nextInt(6) == 0 ? -1 : Math.min(100000, lot.nextInt(allowed * 2 + 5));
        finish(r, k, first, second);
    }

    private void finish(int r, int k, int first, int second) {
        due("finish(" + r + ", " + k + ", " + first + ", " + second + ")", x.finish(r, k, first, second),
                m.finish(r, k, first, second));
    }

    /** Any call, with odd arguments too. */
    private void any() {
        int a = lot.nextInt(3) == 0 ? odd() : lot.nextInt(8);
        int b = lot.nextInt(3) == 0 ? odd() : lot.nextInt(4);
        int c = lot.nextInt(3) == 0 ? odd() : lot.nextInt(8);
        int r = rider();
        int k = numberOfRide();
        String with = " with " + a + ", " + b + ", " + c + ", " + r + ", " + k;
        switch (lot.nextInt(30)) {
            case 0 -> due("feed" + with, x.feed(a, b, c, r, k), m.feed(a, b, c, r, k));
            case 1 -> due("end" + with, x.end(a * 7), m.end(a * 7));
            case 2 -> due("course" + with, x.course(k), m.course(k));
            case 3 -> due("laws" + with, x.laws(), m.laws());
            case 4 -> due("fault" + with, x.fault(b), m.fault(b));
            case 5 -> due("law" + with, x.law(a + b), m.law(a + b));
            case 6 -> due("about" + with, x.about(k, b), m.about(k, b));
            case 7, 8 -> due("fence" + with, x.fence(k, a, c), m.fence(k, a, c));
            case 9, 10 -> due("legal" + with, x.legal(k), m.legal(k));
            case 11 -> due("enter" + with, x.enter(r, b > 1), m.enter(r, b > 1));
            case 12 -> due("enter" + with, x.enter(a, true), m.enter(a, true));
            case 13 -> due("orders" + with, x.orders(), m.orders());
            case 14, 15 -> lot(c);
            case 16 -> due("jump" + with, x.jump(r, k, a), m.jump(r, k, a));
            case 17 -> due("retire" + with, x.retire(r, k), m.retire(r, k));
            case 18 -> finish(r, k, a, b);
            case 19, 20 -> due("ride" + with, x.ride(r, k, c), m.ride(r, k, c));
            case 21 -> due("asked" + with, x.asked(r), m.asked(r));
            case 22 -> due("placed" + with, x.placed(a), m.placed(a));
            case 23, 24 -> due("teamed" + with, x.teamed(a, b), m.teamed(a, b));
            case 25, 26 -> due("shared" + with, x.shared(k, a, b), m.shared(k, a, b));
            case 27, 28 -> due("count" + with, x.count(c), m.count(c));
            default -> due("place" + with, x.place(r), m.place(r));
        }
    }

    private void lot(int i) {
        int orders = m.orders();
        int number = lot.nextInt(4) == 0 ? odd() : orders > 0 ? lot.nextInt(orders) : 0;
        due("lot(" + number + ", " + i + ")", x.lot(number, i), m.lot(number, i));
    }
}
