import java.util.ArrayList;
import java.util.Arrays;
import java.util.Comparator;
import java.util.HashSet;
import java.util.LinkedHashMap;
import java.util.List;
import java.util.Map;
import java.util.Set;
import java.util.function.Function;
import java.util.regex.Matcher;
import java.util.regex.Pattern;

/**
 * The document told a second time, with other means than the class: texts are held against regular
 * expressions, and every answer about rides is worked out anew from the events.
 */
final class Model {
    private static final int NONE = -1;
    private static final int RANGE = -2;
    private static final int FULL = -3;
    private static final int STATE = -4;

    private static final Map<String, Character> COURSE_SIGNS = signs("start s finish e fence f water w high h wide d joined j");
    private static final Pattern COURSE = Pattern.compile("snn;(?:fnnhn(?:dn)?j?;|wnndn;)*enn;");
    private static final Map<String, Character> LAW_SIGNS = signs("most M near N count C way W wheel L down D wet E "
            + "refusal R fall F late A limit I stood S again G watch H team T out o none z first f lesser l greater g");
    private static final Pattern LAWS = Pattern.compile(
            "(?:(?:[MNCA]nn|[WLDEIST]n|Rn(?:nn?)?|F[on]|G[zf]|H[flg]);)*");
    private static final String LAW_LINES = "MMNNCCWLDERRRFAAISGHT";

    private record Token(String text, int place) { }

    private record Fence(int x, int y, int high, int wide, boolean water, int obstacle) { }

    private record Course(List<Fence> fences, int way, int obstacles) { }

    private record Event(int kind, int first, int second) { }

    /** What a ride comes to. */
    private static final class Outcome {
        int state = 1;
        int faults;
        int due;
        int refusals;
        int stood;
        int time = NONE;
        int late;
        final List<int[]> jumps = new ArrayList<>();
    }

    private final List<Integer> tape = new ArrayList<>();
    private final Course[] courses = new Course[2];
    private int[] laws = untold();
    private int kind = 0;
    private int place = NONE;
    private final Map<Integer, Integer> entered = new java.util.TreeMap<>();
    private final Map<Integer, List<Event>> rides = new java.util.HashMap<>();

    private static Map<String, Character> signs(String pairs) {
        Map<String, Character> map = new LinkedHashMap<>();
        String[] words = pairs.split(" ");
        for (int i = 0; i < words.length; i += 2) {
            map.put(words[i], words[i + 1].charAt(0));
        }
        return map;
    }

    private static int[] untold() {
        return new int[] {160, 200, 6, 12, 1, 20, 700, 350, 4, 4, 4, 8, -1, -1, 1, 4, 200, 6, 1, 0, 3};
    }

    int feed(int a, int b, int c, int d, int e) {
        if (tape.size() > 1980) {
            return FULL;
        }
        for (int word : new int[] {a, b, c, d, e}) {
            tape.add(word >>> 24);
            tape.add(word >>> 16 & 255);
            tape.add(word >>> 8 & 255);
            tape.add(word & 255);
        }
        return tape.size();
    }

    int end(int n) {
        if (n < 0 || n > tape.size()) {
            return NONE;
        }
        tape.subList(n, tape.size()).clear();
        return n;
    }

    private String read() {
        StringBuilder text = new StringBuilder();
        for (int b : tape) {
            text.append((char) b);
        }
        tape.clear();
        return text.toString();
    }

    private static List<Token> tokens(String text) {
        List<Token> all = new ArrayList<>();
        Matcher m = Pattern.compile("[a-z]+|[0-9]+|[^ \n]", Pattern.DOTALL).matcher(text);
        while (m.find()) {
            all.add(new Token(m.group(), m.start()));
        }
        return all;
    }

    private static char sign(Token token, Map<String, Character> signs) {
        if (token.text.matches("[0-9]{1,4}")) {
            return 'n';
        }
        return token.text.equals(";") ? ';' : signs.getOrDefault(token.text, '?');
    }

    /** Takes the tokens as long as some text goes on with them; null with a fault. */
    private List<List<Token>> lines(String text, Map<String, Character> signs, Pattern grammar,
            Function<List<List<Token>>, Integer> other) {
        kind = 0;
        place = NONE;
        StringBuilder row = new StringBuilder();
        List<List<Token>> lines = new ArrayList<>();
        lines.add(new ArrayList<>());
        for (Token token : tokens(text)) {
            row.append(sign(token, signs));
            Matcher m = grammar.matcher(row);
            if (!m.matches() && !m.hitEnd()) {
                kind = 1;
            } else {
                lines.get(lines.size() - 1).add(token);
                kind = other.apply(lines);
            }
            if (kind != 0) {
                place = token.place;
                return null;
            }
            if (token.text.equals(";")) {
                lines.add(new ArrayList<>());
            }
        }
        if (!grammar.matcher(row).matches()) {
            kind = 1;
            place = text.length();
            return null;
        }
        lines.remove(lines.size() - 1);
        return lines;
    }

    private static boolean isNumber(Token token) {
        return Character.isDigit(token.text.charAt(0));
    }

    private static int number(List<Token> line, int i) {
        return Integer.parseInt(line.get(i).text);
    }

    private static int numberBehind(List<Token> line, String word) {
        for (int i = 0; i < line.size() - 1; i++) {
            if (line.get(i).text.equals(word)) {
                return number(line, i + 1);
            }
        }
        return 0;
    }

    private static int outside(int n, int least, int most) {
        return n < least || n > most ? 2 : 0;
    }

    private static int courseFault(List<List<Token>> lines) {
        List<Token> line = lines.get(lines.size() - 1);
        Token last = line.get(line.size() - 1);
        if (isNumber(last)) {
            String ahead = line.get(line.size() - 2).text;
            int n = Integer.parseInt(last.text);
            return ahead.equals("high") ? outside(n, 50, 200) : ahead.equals("wide") ? outside(n, 0, 450) : outside(n, 0, 99);
        }
        if (line.size() == 1 && (last.text.equals("fence") || last.text.equals("water"))) {
            return lines.size() == 22 ? 3 : 0;
        }
        if (last.text.equals("joined")) {
            String ahead = lines.get(lines.size() - 2).get(0).text;
            return ahead.equals("fence") ? 0 : 5;
        }
        return 0;
    }

    private static int lawFault(List<List<Token>> lines) {
        List<Token> line = lines.get(lines.size() - 1);
        Token last = line.get(line.size() - 1);
        if (isNumber(last)) {
            int n = Integer.parseInt(last.text);
            switch (line.get(0).text) {
                case "wheel": return outside(n, 1, 999);
                case "limit": return outside(n, 100, 999);
                case "team": return outside(n, 1, 4);
                case "late": return line.size() == 3 ? outside(n, 1, 99) : outside(n, 0, 999);
                default: return outside(n, 0, 999);
            }
        }
        if (line.size() == 1) {
            Set<String> told = new HashSet<>();
            for (List<Token> each : lines.subList(0, lines.size() - 1)) {
                told.add(each.get(0).text);
            }
            return told.contains(last.text) ? 4 : 0;
        }
        return 0;
    }

    private static int distance(int ax, int ay, int bx, int by) {
        return (int) Math.floor(Math.sqrt((ax - bx) * (ax - bx) + (ay - by) * (ay - by)));
    }

    int course(int c) {
        if (c != 0 && c != 1) {
            return RANGE;
        }
        if (!rides.isEmpty()) {
            return STATE;
        }
        List<List<Token>> lines = lines(read(), COURSE_SIGNS, COURSE, Model::courseFault);
        if (lines == null) {
            return NONE;
        }
        List<Fence> fences = new ArrayList<>();
        int way = 0;
        int obstacles = 0;
        for (int i = 0; i < lines.size(); i++) {
            List<Token> line = lines.get(i);
            if (i > 0) {
                List<Token> ahead = lines.get(i - 1);
                way += distance(number(ahead, 1), number(ahead, 2), number(line, 1), number(line, 2));
            }
            if (i > 0 && i < lines.size() - 1) {
                boolean joined = line.stream().anyMatch(token -> token.text.equals("joined"));
                obstacles += joined ? 0 : 1;
                fences.add(new Fence(number(line, 1), number(line, 2), numberBehind(line, "high"),
                        numberBehind(line, "wide"), line.get(0).text.equals("water"), obstacles - 1));
            }
        }
        courses[c] = new Course(fences, way, obstacles);
        return fences.size();
    }

    int laws() {
        if (!rides.isEmpty()) {
            return STATE;
        }
        List<List<Token>> lines = lines(read(), LAW_SIGNS, LAWS, Model::lawFault);
        if (lines == null) {
            return NONE;
        }
        laws = untold();
        for (List<Token> line : lines) {
            int at = LAW_LINES.indexOf(LAW_SIGNS.get(line.get(0).text));
            if (line.get(0).text.equals("refusal")) {
                Arrays.fill(laws, at, at + 3, NONE);
            }
            for (int i = 1; i < line.size() - 1; i++) {
                laws[at + i - 1] = lawValue(line.get(0).text, line.get(i));
            }
        }
        return lines.size();
    }

    private static int lawValue(String line, Token token) {
        if (isNumber(token)) {
            return Integer.parseInt(token.text);
        }
        switch (token.text) {
            case "out": return NONE;
            case "none": return 0;
            case "first": return line.equals("again") ? 1 : 0;
            case "lesser": return 1;
            default: return 2;
        }
    }

    int fault(int what) {
        return what == 0 ? kind : what == 1 ? place : NONE;
    }

    int law(int what) {
        return what < 0 || what > 20 ? -9 : laws[what];
    }

    private Course told(int c) {
        return c == 0 || c == 1 ? courses[c] : null;
    }

    private int allowed(Course course) {
        return (int) Math.ceil(course.way * 60 / (double) laws[7]);
    }

    int about(int c, int what) {
        Course course = told(c);
        if (course == null || what < 0 || what > 3) {
            return NONE;
        }
        return new int[] {course.fences.size(), course.obstacles, course.way, allowed(course)}[what];
    }

    int fence(int c, int f, int what) {
        Course course = told(c);
        if (course == null || f < 0 || f >= course.fences.size() || what < 0 || what > 5) {
            return NONE;
        }
        Fence x = course.fences.get(f);
        return new int[] {x.x, x.y, x.high, x.wide, x.obstacle, x.water ? 1 : 0}[what];
    }

    int legal(int c) {
        Course course = told(c);
        if (course == null) {
            return RANGE;
        }
        int parts = 0;
        for (int f = 0; f < course.fences.size(); f++) {
            Fence x = course.fences.get(f);
            Fence ahead = f == 0 ? null : course.fences.get(f - 1);
            boolean joined = ahead != null && ahead.obstacle == x.obstacle;
            parts = joined ? parts + 1 : 1;
            int metres = joined ? distance(ahead.x, ahead.y, x.x, x.y) : 0;
            if (x.high > laws[0]) {
                return 100 + f;
            } else if (!x.water && x.wide > laws[1]) {
                return 200 + f;
            } else if (joined && (metres < laws[2] || metres > laws[3])) {
                return 300 + f;
            } else if (parts == 4) {
                return 400 + f;
            }
        }
        return course.obstacles < laws[4] || course.obstacles > laws[5] ? 500 : course.way > laws[6] ? 600 : 0;
    }

    private static int key(int r, int k) {
        return r * 2 + k;
    }

    private static boolean isRider(int r) {
        return r >= 0 && r < 30;
    }

    private static boolean isRide(int r, int k) {
        return isRider(r) && (k == 0 || k == 1);
    }

    int enter(int r, boolean on) {
        if (!isRider(r)) {
            return RANGE;
        }
        if (rides.containsKey(key(r, 0))) {
            return STATE;
        }
        if (entered.containsKey(r) == on) {
            return 0;
        }
        if (on) {
            entered.put(r, NONE);
        } else {
            entered.remove(r);
        }
        return 1;
    }

    int team(int r, int t) {
        if (!entered.containsKey(r) || t < -1 || t > 6) {
            return RANGE;
        }
        long others = entered.entrySet().stream().filter(e -> e.getKey() != r && e.getValue() == t).count();
        return t != NONE && others >= 4 ? FULL : entered.put(r, t);
    }

    int orders() {
        int product = 1;
        for (int i = 1; i <= entered.size(); i++) {
            product *= i;
        }
        return entered.size() > 12 ? FULL : product;
    }

    int lot(int number, int i) {
        if (i < 0 || i >= entered.size()) {
            return NONE;
        }
        if (number < 0 || entered.size() <= 12 && number >= orders()) {
            return RANGE;
        }
        if (entered.size() > 12) {
            return FULL;
        }
        // The digits of the number in the factorial system, from the last one on.
        List<Integer> digits = new ArrayList<>();
        for (int base = 1; base <= entered.size(); base++) {
            digits.add(0, number % base);
            number /= base;
        }
        List<Integer> waiting = new ArrayList<>(entered.keySet());
        int rider = NONE;
        for (int turn = 0; turn <= i; turn++) {
            rider = waiting.remove((int) digits.get(turn));
        }
        return rider;
    }

    private Outcome outcome(int r, int k) {
        List<Event> events = rides.get(key(r, k));
        if (events == null) {
            return null;
        }
        Outcome o = new Outcome();
        Course course = courses[k];
        for (Event e : events) {
            Fence at = o.due < course.fences.size() ? course.fences.get(o.due) : null;
            if (e.kind <= 3) {
                o.jumps.add(new int[] {at.obstacle, e.kind});
            }
            if (e.kind <= 1) {
                o.faults += e.kind == 0 ? 0 : at.water ? laws[9] : laws[8];
                o.due++;
            } else if (e.kind <= 3) {
                o.stood += e.kind == 3 ? 1 : 0;
                int price = o.refusals < 3 ? laws[10 + o.refusals] : NONE;
                o.refusals++;
                o.state = price == NONE ? 3 : 1;
                o.faults += Math.max(0, price);
                while (o.due > 0 && course.fences.get(o.due - 1).obstacle == at.obstacle) {
                    o.due--;
                }
            } else if (e.kind == 4) {
                o.state = laws[13] == NONE ? 3 : 1;
                o.faults += Math.max(0, laws[13]);
            } else if (e.kind == 5) {
                finished(o, e, course);
            } else {
                o.state = 3;
            }
        }
        return o;
    }

    private void finished(Outcome o, Event e, Course course) {
        List<Integer> shown = new ArrayList<>();
        if (e.first != NONE) {
            shown.add(e.first);
        }
        if (e.second != NONE) {
            shown.add(e.second);
        }
        int watch = shown.get(0);
        for (int s : shown) {
            watch = laws[19] == 1 ? Math.min(watch, s) : laws[19] == 2 ? Math.max(watch, s) : watch;
        }
        o.time = watch + 10 * laws[17] * o.stood;
        int above = o.time - 10 * allowed(course);
        while (above > 0) {
            o.late += laws[14];
            above -= 10 * laws[15];
        }
        o.faults += o.late;
        o.state = o.time * 10L > (long) laws[16] * allowed(course) ? 3 : 2;
    }

    private Outcome counted(int r, int k) {
        Outcome o = outcome(r, k);
        return o != null && o.state == 2 ? o : null;
    }

    int begin(int r, int k) {
        if (!entered.containsKey(r) || !isRide(r, k)) {
            return RANGE;
        }
        if (courses[k] == null || rides.containsKey(key(r, k)) || k == 1 && counted(r, 0) == null) {
            return STATE;
        }
        rides.put(key(r, k), new ArrayList<>());
        return 1;
    }

    private int event(int r, int k, int kind, int first, int second) {
        List<Event> events = rides.get(key(r, k));
        if (events.size() >= 60) {
            return FULL;
        }
        events.add(new Event(kind, first, second));
        return 1;
    }

    int jump(int r, int k, int how) {
        if (!isRide(r, k) || how < 0 || how > 3) {
            return RANGE;
        }
        Outcome o = outcome(r, k);
        if (o == null || o.state != 1 || o.due == courses[k].fences.size()) {
            return STATE;
        }
        if (how == 3 && courses[k].fences.get(o.due).water) {
            return RANGE;
        }
        return event(r, k, how, 0, 0) == FULL ? FULL : ride(r, k, 2);
    }

    int fall(int r, int k) {
        if (!isRide(r, k)) {
            return RANGE;
        }
        if (ride(r, k, 0) != 1) {
            return STATE;
        }
        return event(r, k, 4, 0, 0) == FULL ? FULL : ride(r, k, 0) == 1 ? 1 : 0;
    }

    int retire(int r, int k) {
        if (!isRide(r, k)) {
            return RANGE;
        }
        return ride(r, k, 0) != 1 ? STATE : event(r, k, 6, 0, 0);
    }

    int finish(int r, int k, int first, int second) {
        if (!isRide(r, k) || Math.min(first, second) < -1 || Math.max(first, second) > 99999
                || first == NONE && second == NONE) {
            return RANGE;
        }
        Outcome o = outcome(r, k);
        if (o == null || o.state != 1 || o.due < courses[k].fences.size()) {
            return STATE;
        }
        return event(r, k, 5, first, second) == FULL ? FULL : ride(r, k, 5);
    }

    int back(int r, int k) {
        if (!isRide(r, k)) {
            return RANGE;
        }
        List<Event> events = rides.get(key(r, k));
        if (events == null || events.isEmpty() || k == 0 && rides.containsKey(key(r, 1))) {
            return STATE;
        }
        events.remove(events.size() - 1);
        return events.size();
    }

    int ride(int r, int k, int what) {
        if (!isRide(r, k) || what < 0 || what > 7) {
            return NONE;
        }
        Outcome o = outcome(r, k);
        if (o == null) {
            return what == 0 ? 0 : NONE;
        }
        return new int[] {o.state, o.faults, o.state == 1 ? o.due : NONE, o.refusals, o.stood, o.time, o.late,
            rides.get(key(r, k)).size()}[what];
    }

    private List<Integer> counting() {
        List<Integer> all = new ArrayList<>();
        for (int r : entered.keySet()) {
            if (counted(r, 0) != null) {
                all.add(r);
            }
        }
        return all;
    }

    private Set<Integer> askedAgain() {
        Set<Integer> best = new HashSet<>();
        int fewest = counting().stream().mapToInt(r -> counted(r, 0).faults).min().orElse(0);
        for (int r : counting()) {
            if (counted(r, 0).faults == fewest) {
                best.add(r);
            }
        }
        return laws[18] == 1 && best.size() > 1 ? best : new HashSet<>();
    }

    private List<Integer> rank(int r, Set<Integer> asked) {
        Outcome first = counted(r, 0);
        Outcome second = counted(r, 1);
        if (!asked.contains(r)) {
            return List.of(2, first.faults, first.time);
        }
        return second == null ? List.of(1, 0, 0) : List.of(0, second.faults, second.time);
    }

    private static int compare(List<Integer> a, List<Integer> b) {
        for (int i = 0; i < a.size(); i++) {
            if (!a.get(i).equals(b.get(i))) {
                return a.get(i) - b.get(i);
            }
        }
        return 0;
    }

    int place(int r) {
        if (!entered.containsKey(r)) {
            return RANGE;
        }
        if (counted(r, 0) == null) {
            return NONE;
        }
        Set<Integer> asked = askedAgain();
        List<Integer> own = rank(r, asked);
        return 1 + (int) counting().stream().filter(q -> compare(rank(q, asked), own) < 0).count();
    }

    int asked(int r) {
        return !entered.containsKey(r) ? RANGE : askedAgain().contains(r) ? 1 : 0;
    }

    int placed(int i) {
        Set<Integer> asked = askedAgain();
        List<Integer> row = counting();
        row.sort((a, b) -> compare(rank(a, asked), rank(b, asked)));
        return i >= 0 && i < row.size() ? row.get(i) : NONE;
    }

    /** Faults and time, or null. */
    private List<Integer> teamSum(int t) {
        List<Outcome> best = new ArrayList<>();
        for (int r : counting()) {
            if (entered.get(r) == t) {
                best.add(counted(r, 0));
            }
        }
        if (best.size() < laws[20]) {
            return null;
        }
        best.sort(Comparator.<Outcome>comparingInt(o -> o.faults).thenComparingInt(o -> o.time));
        int faults = 0;
        int time = 0;
        for (Outcome o : best.subList(0, laws[20])) {
            faults += o.faults;
            time += o.time;
        }
        return List.of(faults, time);
    }

    int teamed(int t, int what) {
        if (t < 0 || t > 6 || what < 0 || what > 3) {
            return NONE;
        }
        if (what == 0) {
            return (int) entered.values().stream().filter(v -> v == t).count();
        }
        List<Integer> own = teamSum(t);
        if (own == null || what < 3) {
            return own == null ? NONE : own.get(what - 1);
        }
        int place = 1;
        for (int other = 0; other < 7; other++) {
            List<Integer> sum = teamSum(other);
            place += sum != null && compare(sum, own) < 0 ? 1 : 0;
        }
        return place;
    }

    int shared(int k, int o, int what) {
        Course course = told(k);
        if (course == null || o < 0 || o >= course.obstacles || what < 0 || what > 2) {
            return NONE;
        }
        int many = 0;
        for (int r = 0; r < 30; r++) {
            Outcome its = outcome(r, k);
            for (int[] jump : its == null ? List.<int[]>of() : its.jumps) {
                boolean fits = what == 0 || what == 1 && jump[1] % 2 == 1 || what == 2 && jump[1] >= 2;
                many += jump[0] == o && fits ? 1 : 0;
            }
        }
        return many;
    }

    int count(int what) {
        switch (what) {
            case 0: return entered.size();
            case 1: return (int) rides.keySet().stream().filter(k -> k % 2 == 0).count();
            case 2: return (int) rides.keySet().stream().filter(k -> k % 2 == 1).count();
            case 3: return counting().size();
            case 4: return (int) entered.keySet().stream().filter(r -> counted(r, 1) != null).count();
            case 5: return askedAgain().size();
            case 6: return tape.size();
            default: return NONE;
        }
    }
}
