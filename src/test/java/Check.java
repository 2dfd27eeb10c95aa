import java.util.function.Supplier;

/** Compares answers with those that are due; an exception is answered as its simple name behind "throws.". */
final class Check {
    private int calls = 0;
    private int wrong = 0;

    void due(String what, Object got, Object want) {
        calls++;
        if (!String.valueOf(got).equals(String.valueOf(want))) {
            wrong++;
            System.out.println(what + " answered " + got + ", due is " + want);
        }
    }

    static String answer(Supplier<Object> call) {
        try {
            return String.valueOf(call.get());
        } catch (RuntimeException e) {
            return "throws." + e.getClass().getSimpleName();
        }
    }

    static String answer(Runnable call) {
        return answer(() -> {
            call.run();
            return "done";
        });
    }

    int wrong() {
        return wrong;
    }

    void end() {
        System.out.println(calls + " answers looked at, " + wrong + " not as due");
        if (wrong != 0 || calls == 0) {
            System.exit(1);
        }
    }
}
