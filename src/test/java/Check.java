import java.util.function.Function;
import java.util.function.Supplier;

/** Compares answers with those that are due. */
final class Check {
    private static final long MOST_SECONDS = 600;

    private int calls = 0;
    private int wrong = 0;

    static {
        watch();
    }

    /** A call that never ends must fail its test, not hang it. */
    private static void watch() {
        Thread watcher = new Thread(() -> {
            try {
                Thread.sleep(1000 * MOST_SECONDS);
            } catch (InterruptedException e) {
                return;
            }
            System.out.println("not ended behind " + MOST_SECONDS + " seconds");
            Runtime.getRuntime().halt(1);
        });
        watcher.setDaemon(true);
        watcher.start();
    }

    void due(String what, Object got, Object want) {
        calls++;
        if (!String.valueOf(got).equals(String.valueOf(want))) {
            wrong++;
            System.out.println(what + " answered " + got + ", due is " + want);
        }
    }

    /**
     * A call that changes nothing: behind it the game is in all that can be asked, and in all that can be
     * taken back, like another one of which the call was never asked.
     */
    void kept(String what, Supplier<Game> standing, Function<Game, String> call, Object want) {
        Game asked = standing.get();
        due(what, call.apply(asked), want);
        due(what + " changes nothing", asked.everything(), standing.get().everything());
    }

    /** An exception is answered as its simple name behind "throws.". */
    static String answer(Supplier<Object> call) {
        try {
            return String.valueOf(call.get());
        } catch (RuntimeException e) {
            return "throws." + e.getClass().getSimpleName();
        }
    }

    static String answer(Runnable call) {
        return answer(() -> {
            call.run();
            return "done";
        });
    }

    int wrong() {
        return wrong;
    }

    void end() {
        System.out.println(calls + " answers looked at, " + wrong + " not as due");
        if (wrong != 0 || calls == 0) {
            System.exit(1);
        }
    }
}
