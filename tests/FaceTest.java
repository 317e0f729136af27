import java.lang.reflect.Field;
import java.lang.reflect.Method;
import java.lang.reflect.Modifier;
import java.util.ArrayList;
import java.util.Arrays;
import java.util.List;
import java.util.TreeSet;

/** The public face (rule 1 of LANGUAGE.md): no member more, and none that bears a public name. */
public final class FaceTest {
    private static final String[] METHODS = {
        "feed(int,int,int,int,int)", "end(int)", "course(int)", "laws()", "fault(int)", "law(int)",
        "about(int,int)", "fence(int,int,int)", "legal(int)", "enter(int,boolean)", "team(int,int)",
        "orders()", "lot(int,int)", "begin(int,int)", "jump(int,int,int)", "fall(int,int)",
        "retire(int,int)", "finish(int,int,int,int)", "back(int,int)", "ride(int,int,int)", "place(int)",
        "asked(int)", "placed(int)", "teamed(int,int)", "shared(int,int,int)", "count(int)",
    };
    private static final String[] CONSTANTS = {"NONE=-1", "RANGE=-2", "FULL=-3", "STATE=-4"};

    public static void main(String[] args) throws Exception {
        Check t = new Check("FaceTest");
        members(t);
        t.close();
    }

    private static void members(Check t) throws Exception {
        t.dueTrue("public and final", Modifier.isPublic(JumpRing.class.getModifiers())
                && Modifier.isFinal(JumpRing.class.getModifiers()));
        t.due("constructors", JumpRing.class.getDeclaredConstructors().length, 1);
        t.due("public constructors", JumpRing.class.getConstructors().length, 1);
        TreeSet<String> seen = new TreeSet<>();
        TreeSet<String> names = new TreeSet<>();
        TreeSet<String> others = new TreeSet<>();
        for (Method m : JumpRing.class.getDeclaredMethods()) {
            if (Modifier.isPrivate(m.getModifiers())) {
                others.add(m.getName());
                continue;
            }
            List<String> types = new ArrayList<>();
            for (Class<?> type : m.getParameterTypes()) {
                types.add(type.getName());
            }
            names.add(m.getName());
            seen.add(m.getName() + "(" + String.join(",", types) + ")");
            t.dueTrue(m.getName() + " is public, answers int", Modifier.isPublic(m.getModifiers())
                    && !Modifier.isStatic(m.getModifiers()) && m.getReturnType() == int.class);
        }
        t.dueTrue("methods " + seen, seen.equals(new TreeSet<>(Arrays.asList(METHODS))));
        others.retainAll(names);
        t.dueTrue("private ones with a public name " + others, others.isEmpty());
        TreeSet<String> constants = new TreeSet<>();
        for (Field f : JumpRing.class.getDeclaredFields()) {
            if (!Modifier.isPrivate(f.getModifiers())) {
                constants.add(f.getName() + "=" + f.getInt(null));
            }
        }
        t.dueTrue("constants " + constants, constants.equals(new TreeSet<>(Arrays.asList(CONSTANTS))));
        for (Class<?> c : JumpRing.class.getDeclaredClasses()) {
            insideIs(t, c, names);
        }
    }

    private static void insideIs(Check t, Class<?> c, TreeSet<String> publicNames) {
        t.dueTrue(c + " is static and not public", Modifier.isStatic(c.getModifiers())
                && !Modifier.isPublic(c.getModifiers()) && !Modifier.isProtected(c.getModifiers()));
        for (Method m : c.getDeclaredMethods()) {
            t.dueTrue(c + ": " + m.getName() + " has another name", !publicNames.contains(m.getName()));
        }
    }
}
