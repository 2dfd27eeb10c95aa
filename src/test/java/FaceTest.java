import java.lang.reflect.Constructor;
import java.lang.reflect.Field;
import java.lang.reflect.Method;
import java.lang.reflect.Modifier;
import java.util.Arrays;
import java.util.List;
import java.util.Map;
import java.util.Set;
import java.util.TreeMap;
import java.util.TreeSet;

/** The public face is the document's and nothing more; how the state is held behind it is free. */
public final class FaceTest {
    private static final Check CHECK = new Check();

    private static String names(Class<?>[] types) {
        String[] all = new String[types.length];
        for (int i = 0; i < types.length; i++) {
            all[i] = types[i].getSimpleName();
        }
        return String.join(", ", all);
    }

    /** Each method with the exceptions that it may declare. */
    private static Map<String, String> document() {
        String state = "IllegalStateException";
        String argument = "IllegalArgumentException";
        String index = "IndexOutOfBoundsException";
        Map<String, String> all = new TreeMap<>();
        all.put("void clear()", "");
        all.put("void begin()", "");
        all.put("void put(int, int)", index + ", " + argument);
        all.put("void state(int, int, int)", argument);
        all.put("boolean playable()", "");
        all.put("int count()", state);
        all.put("int move(int)", state + ", " + index);
        all.put("int place(int)", state);
        all.put("int on(int, boolean)", state);
        all.put("int kind(int)", state + ", " + argument);
        all.put("long lines(int)", state + ", " + argument);
        all.put("int make(int)", state + ", " + argument + ", UnsupportedOperationException");
        all.put("int unmake()", "");
        all.put("int at(int)", "");
        all.put("boolean check()", state);
        all.put("long pinned()", state);
        all.put("int look(int)", "");
        return all;
    }

    private static void methods() {
        Map<String, String> want = document();
        Set<String> got = new TreeSet<>();
        Set<String> hidden = new TreeSet<>();
        for (Method m : MoveList.class.getDeclaredMethods()) {
            if (Modifier.isPrivate(m.getModifiers())) {
                hidden.add(m.getName());
            } else if (!m.isSynthetic()) {
                String face = m.getReturnType() + " " + m.getName() + "(" + names(m.getParameterTypes()) + ")";
                got.add(face);
                List<String> may = Arrays.asList(want.getOrDefault(face, "").split(", "));
                for (Class<?> e : m.getExceptionTypes()) {
                    CHECK.due(face + " may declare " + e.getSimpleName(), may.contains(e.getSimpleName()), true);
                }
                CHECK.due(face + " is of the object", Modifier.toString(m.getModifiers()), "public");
            }
        }
        CHECK.due("the methods", got, want.keySet());
        for (String face : want.keySet()) {
            String name = face.substring(face.indexOf(' ') + 1, face.indexOf('('));
            CHECK.due(name + " is private too", hidden.contains(name), false);
        }
    }

    private static void fields() {
        Set<String> open = new TreeSet<>();
        for (Field f : MoveList.class.getDeclaredFields()) {
            int how = f.getModifiers();
            if (!Modifier.isPrivate(how) && !f.isSynthetic()) {
                open.add(Modifier.toString(how) + " " + f.getType() + " " + f.getName());
            }
            CHECK.due(f.getName() + " is final or of the object", Modifier.isFinal(how) || !Modifier.isStatic(how), true);
        }
        CHECK.due("the constants", open, "[public static final int NONE]");
        CHECK.due("NONE", MoveList.NONE, -1);
    }

    public static void main(String[] args) {
        methods();
        fields();
        Constructor<?>[] makers = MoveList.class.getDeclaredConstructors();
        CHECK.due("constructors", makers.length + " " + makers[0], "1 public MoveList()");
        CHECK.due("the class", Modifier.toString(MoveList.class.getModifiers()), "public final");
        CHECK.end();
    }
}
