import java.lang.reflect.Constructor;
import java.lang.reflect.Field;
import java.lang.reflect.Method;
import java.lang.reflect.Modifier;
import java.util.Arrays;
import java.util.Set;
import java.util.TreeSet;

/** The public face is the document's and nothing more. */
public final class FaceTest {
    private static final Check CHECK = new Check();

    private static String names(Class<?>[] types) {
        String[] all = new String[types.length];
        for (int i = 0; i < types.length; i++) {
            all[i] = types[i].getSimpleName();
        }
        return String.join(", ", all);
    }

    public static void main(String[] args) {
        String state = "IllegalStateException";
        String argument = "IllegalArgumentException";
        String index = "IndexOutOfBoundsException";
        Set<String> want = new TreeSet<>(Arrays.asList(
                "void clear() ", "void begin() ", "void put(int, int) " + index + ", " + argument,
                "void state(int, int, int) " + argument, "boolean playable() ", "int count() " + state,
                "int move(int) " + state + ", " + index, "int place(int) " + state,
                "int on(int, boolean) " + state, "int kind(int) " + state + ", " + argument,
                "long lines(int) " + state + ", " + argument,
                "int make(int) " + state + ", " + argument + ", UnsupportedOperationException",
                "int unmake() ", "int at(int) ", "boolean check() " + state, "long pinned() " + state,
                "int look(int) "));
        Set<String> got = new TreeSet<>();
        Set<String> hidden = new TreeSet<>();
        for (Method m : MoveList.class.getDeclaredMethods()) {
            if (Modifier.isPrivate(m.getModifiers())) {
                hidden.add(m.getName());
            } else {
                got.add(m.getReturnType() + " " + m.getName() + "(" + names(m.getParameterTypes()) + ") "
                        + names(m.getExceptionTypes()));
            }
        }
        CHECK.due("the methods", got, want);
        for (Method m : MoveList.class.getMethods()) {
            CHECK.due(m.getName() + " private too", hidden.contains(m.getName()), false);
        }
        for (Field f : MoveList.class.getDeclaredFields()) {
            int how = f.getModifiers();
            CHECK.due(f.getName() + " is hidden", Modifier.isPrivate(how), !f.getName().equals("NONE"));
            CHECK.due(f.getName() + " is final", Modifier.isFinal(how), true);
        }
        Constructor<?>[] makers = MoveList.class.getDeclaredConstructors();
        CHECK.due("constructors", makers.length + " " + names(makers[0].getParameterTypes()), "1 ");
        CHECK.due("the class", Modifier.toString(MoveList.class.getModifiers()), "public final");
        CHECK.due("NONE", MoveList.NONE, -1);
        CHECK.end();
    }
}
