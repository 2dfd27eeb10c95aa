import java.util.List;
import java.util.Random;
import java.util.function.Function;

/** Runs of calls on positions of many sorts, each answer compared with the oracle's. Seeds are fixed. */
public final class RandomRunsTest {
    private static final int[] ODD = {Integer.MIN_VALUE, -65, -64, -2, -1, 64, 65, 4096, 32768, Integer.MAX_VALUE};

    private final Check check = new Check();
    private final Random random;
    private final Game x = new Game();
    private final Oracle o = new Oracle();
    private final int seed;

    private RandomRunsTest(int seed) {
        this.seed = seed;
        random = new Random(seed);
    }

    private int below(int n) {
        return random.nextInt(n);
    }

    private void same(String call, String got, Function<Oracle, Object> want) {
        check.due("seed " + seed + " " + call, got, Check.answer(() -> want.apply(o)));
    }

    private void put(int square, int piece) {
        same("put(" + square + ", " + piece + ")", x.put(square, piece), oracle -> {
            oracle.put(square, piece);
            return Game.DONE;
        });
    }

    private void state(int side, int rights, int passing) {
        same("state(" + side + ", " + rights + ", " + passing + ")", x.state(side, rights, passing), oracle -> {
            oracle.state(side, rights, passing);
            return Game.DONE;
        });
    }

    private void begin() {
        same("begin()", x.begin(), oracle -> {
            oracle.begin();
            return Game.DONE;
        });
    }

    private void clear() {
        same("clear()", x.clear(), oracle -> {
            oracle.clear();
            return Game.DONE;
        });
    }

    private void setUp() {
        int style = below(6);
        if (style == 0) {
            begin();
            return;
        }
        clear();
        boolean home = below(2) == 0;
        int white = home ? 4 : below(64);
        int black = home ? 60 : below(64);
        int men = style == 1 ? below(60) : below(24);
        for (int i = 0; i < men; i++) {
            put(below(64), style == 2 ? (below(2) == 0 ? 1 : 7) : style == 3 ? 1 + 6 * below(2) + below(5) : below(13));
        }
        for (int s = 0; s < 64; s++) {
            if (o.at(s) == 6 || o.at(s) == 12) {
                put(s, 0);
            }
        }
        if (home) {
            clearTheWay();
        }
        put(white, 6);
        if (below(20) != 0 || white != black) {
            put(black, 12);
        }
        int side = below(2);
        int passing = below(3) == 0 ? passingOf(side) : below(2) == 0 ? MoveList.NONE : below(64);
        state(side, below(3) == 0 ? below(16) : 15, passing);
    }

    /** Rooks on most corners, and most ways to them empty, so that CASTLING comes up often. */
    private void clearTheWay() {
        int[] corners = {0, 7, 56, 63};
        for (int i = 0; i < 4; i++) {
            if (below(4) != 0) {
                put(corners[i], i < 2 ? 4 : 10);
            }
            if (below(3) != 0) {
                for (int k = 1; k < 4; k++) {
                    put(i % 2 == 0 ? corners[i] + k : corners[i] - Math.min(k, 2), 0);
                }
            }
        }
    }

    /** A square behind a pawn of the other side, so that taking in passing comes up often. */
    private int passingOf(int side) {
        int start = below(64);
        for (int i = 0; i < 64; i++) {
            int s = (start + i) % 64;
            int to = side == 0 ? s + 8 : s - 8;
            if (o.at(s) == (side == 0 ? 7 : 1) && to >= 0 && to < 64 && o.at(to) == 0) {
                return to;
            }
        }
        return MoveList.NONE;
    }

    private int someMove() {
        if (o.playable() && below(3) != 0) {
            List<Integer> all = o.list();
            if (!all.isEmpty()) {
                int move = all.get(below(all.size()));
                return below(4) == 0 ? move ^ 4096 << below(3) : move;
            }
        }
        return below(5) == 0 ? ODD[below(ODD.length)] : below(64 * 64 * 6);
    }

    private int square() {
        return below(8) == 0 ? ODD[below(ODD.length)] : below(64);
    }

    /** Depth 3 only where few moves are, as the oracle is slow. */
    private int depth() {
        if (below(6) == 0) {
            return below(2) == 0 ? 4 : ODD[below(ODD.length)];
        }
        return below(o.playable() && o.count() < 15 ? 4 : 3);
    }

    private void call() {
        int m = someMove();
        int s = square();
        boolean w = below(2) == 0;
        switch (below(14)) {
            case 0: same("count()", x.count(), Oracle::count); break;
            case 1: same("move(" + s + ")", x.move(s), oracle -> oracle.move(s)); break;
            case 2: same("place(" + m + ")", x.place(m), oracle -> oracle.place(m)); break;
            case 3: same("on(" + s + ", " + w + ")", x.on(s, w), oracle -> oracle.on(s, w)); break;
            case 4: case 5: same("kind(" + m + ")", x.kind(m), oracle -> oracle.kind(m)); break;
            case 6: {
                int d = depth();
                same("lines(" + d + ")", x.lines(d), oracle -> oracle.lines(d));
                break;
            }
            case 7: case 8: case 9: same("make(" + m + ")", x.make(m), oracle -> oracle.make(m)); break;
            case 10: same("unmake()", x.unmake(), Oracle::unmake); break;
            case 11: same("check()", x.check(), Oracle::check); break;
            case 12: same("pinned()", x.pinned(), Oracle::pinned); break;
            default:
                if (below(6) == 0) {
                    put(s, below(14) - (below(10) == 0 ? 1 : 0));
                } else if (below(6) == 0) {
                    state(below(10) == 0 ? s : below(2), below(10) == 0 ? s : below(16), s);
                } else {
                    same("at(" + s + ")", x.at(s), oracle -> oracle.at(s));
                }
        }
    }

    private void seen() {
        for (int s = -1; s <= 64; s++) {
            int square = s;
            same("at(" + s + ")", x.at(s), oracle -> oracle.at(square));
        }
        for (int i = -1; i <= 4; i++) {
            int which = i;
            same("look(" + i + ")", x.look(i), oracle -> oracle.look(which));
        }
        same("playable()", x.playable(), Oracle::playable);
    }

    /** The list from its end, as far as calls are left beside some that are kept. */
    private void wholeList(int kept) {
        if (!o.playable()) {
            return;
        }
        List<Integer> all = o.list();
        same("count()", x.count(), Oracle::count);
        for (int i = all.size() - 1; i >= 0 && x.left() > kept; i--) {
            check.due("seed " + seed + " move(" + i + ")", x.move(i), all.get(i));
        }
    }

    private void run() {
        setUp();
        seen();
        wholeList(150);
        for (int i = 0; i < 25; i++) {
            call();
        }
        seen();
        wholeList(0);
    }

    /** As many moves as can be taken back, and all of them taken back, in the 512 calls of one object. */
    private void longRun() {
        begin();
        while (x.left() > 250 && o.look(3) < 200) {
            List<Integer> all = o.list();
            boolean over = all.isEmpty();
            int move = over ? 0 : all.get(below(all.size()));
            if (over || below(30) == 0) {
                same("unmake()", x.unmake(), Oracle::unmake);
            } else {
                same("make(" + move + ")", x.make(move), oracle -> oracle.make(move));
            }
        }
        for (int i = 0; i < 10; i++) {
            int move = someMove();
            same("make(" + move + ")", x.make(move), oracle -> oracle.make(move));
        }
        while (x.left() > 0) {
            same("unmake()", x.unmake(), Oracle::unmake);
        }
    }

    public static void main(String[] args) {
        int first = args.length > 0 ? Integer.parseInt(args[0]) : 1;
        int runs = args.length > 1 ? Integer.parseInt(args[1]) : 1500;
        int wrong = 0;
        for (int seed = first; seed < first + runs; seed++) {
            RandomRunsTest test = new RandomRunsTest(seed);
            if (seed % 100 == 0) {
                test.longRun();
            } else {
                test.run();
            }
            wrong += test.check.wrong();
        }
        System.out.println(runs + " runs, " + wrong + " answers not as due");
        if (wrong != 0) {
            System.exit(1);
        }
    }
}
