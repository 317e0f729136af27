import java.lang.reflect.Field;
import java.lang.reflect.Method;
import java.lang.reflect.Modifier;
import java.nio.file.Files;
import java.nio.file.Path;
import java.util.ArrayList;
import java.util.Arrays;
import java.util.List;
import java.util.TreeSet;
import java.util.regex.Matcher;
import java.util.regex.Pattern;

/** The public face, and those rules of LANGUAGE.md that can be seen without a compiler's help. */
public final class FaceTest {
    private static final String[] METHODS = {
        "feed(int,int,int,int,int)", "end(int)", "course(int)", "laws()", "fault(int)", "law(int)",
        "about(int,int)", "fence(int,int,int)", "legal(int)", "enter(int,boolean)", "team(int,int)",
        "orders()", "lot(int,int)", "begin(int,int)", "jump(int,int,int)", "fall(int,int)",
        "retire(int,int)", "finish(int,int,int,int)", "back(int,int)", "ride(int,int,int)", "place(int)",
        "asked(int)", "placed(int)", "teamed(int,int)", "shared(int,int,int)", "count(int)",
    };
    private static final String[] CONSTANTS = {"NONE=-1", "RANGE=-2", "FULL=-3", "STATE=-4"};

    public static void main(String[] args) throws Exception {
        Check t = new Check("FaceTest");
        members(t);
        source(t);
        t.close();
    }

    private static void members(Check t) throws Exception {
        t.dueTrue("public and final", Modifier.isPublic(JumpRing.class.getModifiers())
                && Modifier.isFinal(JumpRing.class.getModifiers()));
        t.due("constructors", JumpRing.class.getDeclaredConstructors().length, 1);
        t.due("public constructors", JumpRing.class.getConstructors().length, 1);
        TreeSet<String> seen = new TreeSet<>();
        TreeSet<String> names = new TreeSet<>();
        TreeSet<String> others = new TreeSet<>();
        for (Method m : JumpRing.class.getDeclaredMethods()) {
            if (Modifier.isPrivate(m.getModifiers())) {
                others.add(m.getName());
                continue;
            }
            List<String> types = new ArrayList<>();
            for (Class<?> type : m.getParameterTypes()) {
                types.add(type.getName());
            }
            names.add(m.getName());
            seen.add(m.getName() + "(" + String.join(",", types) + ")");
            t.dueTrue(m.getName() + " is public, answers int", Modifier.isPublic(m.getModifiers())
                    && !Modifier.isStatic(m.getModifiers()) && m.getReturnType() == int.class);
        }
        t.dueTrue("methods " + seen, seen.equals(new TreeSet<>(Arrays.asList(METHODS))));
        others.retainAll(names);
        t.dueTrue("private ones with a public name " + others, others.isEmpty());
        TreeSet<String> constants = new TreeSet<>();
        for (Field f : JumpRing.class.getDeclaredFields()) {
            if (!Modifier.isPrivate(f.getModifiers())) {
                constants.add(f.getName() + "=" + f.getInt(null));
            }
        }
        t.dueTrue("constants " + constants, constants.equals(new TreeSet<>(Arrays.asList(CONSTANTS))));
        Class<?>[] inside = JumpRing.class.getDeclaredClasses();
        t.dueTrue("classes", inside.length + 1 <= 12);
        for (Class<?> c : inside) {
            insideIs(t, c, names);
        }
    }

    private static void insideIs(Check t, Class<?> c, TreeSet<String> publicNames) {
        t.dueTrue(c + " is static and not public", Modifier.isStatic(c.getModifiers())
                && !Modifier.isPublic(c.getModifiers()) && !Modifier.isProtected(c.getModifiers()));
        int fields = 0;
        for (Field f : c.getDeclaredFields()) {
            if (Modifier.isStatic(f.getModifiers())) {
                t.dueTrue(c + ": " + f.getName() + " is final", Modifier.isFinal(f.getModifiers()));
            } else {
                fields++;
            }
        }
        t.dueTrue(c + ": fields", fields <= 20);
        for (Method m : c.getDeclaredMethods()) {
            t.dueTrue(c + ": " + m.getName() + " has another name", !publicNames.contains(m.getName()));
            t.dueTrue(c + ": " + m.getName() + " parameters", m.getParameterCount() <= 7);
        }
    }

    private static void source(Check t) throws Exception {
        String text = Files.readString(Path.of("src/main/java/JumpRing.java"));
        String bare = text.replaceAll("(?s)/\\*.*?\\*/", " ").replaceAll("//[^\n]*", " ")
                .replaceAll("'[^'\n]*'", "0").replaceAll("\"[^\"\n]*\"", "0");
        String[] banned = {"throw", "throws", "try", "catch", "synchronized", "assert", "import", "package",
            "volatile", "native", "transient", "protected", "goto", "System", "Thread", "hashCode", "toString"};
        for (String word : banned) {
            Matcher m = Pattern.compile("\\b" + word + "\\b").matcher(bare);
            t.dueTrue("no " + word, !m.find());
        }
        t.dueTrue("no lambda, no method reference", !bare.contains("->") && !bare.contains("::"));
        t.dueTrue("plain signs", text.chars().allMatch(c -> c == '\n' || c >= 32 && c < 127));
        longMethods(t, bare);
    }

    /** A method's lines run from a line that opens a body at its level to the line that closes it. */
    private static void longMethods(Check t, String bare) {
        String[] lines = bare.split("\n");
        for (int i = 0; i < lines.length; i++) {
            Matcher open = Pattern.compile("^( {4}| {8})[a-z][^=;]*\\([^;]*\\) \\{$").matcher(lines[i]);
            if (!open.find()) {
                continue;
            }
            int end = i;
            while (end < lines.length && !lines[end].equals(open.group(1) + "}")) {
                end++;
            }
            t.dueTrue("a method of " + (end - i + 1) + " lines at " + (i + 1), end - i + 1 <= 60);
        }
    }
}
