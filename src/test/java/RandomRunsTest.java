import java.util.List;
import java.util.Random;

/** Runs of calls on positions of many sorts, each answer compared with the oracle's. Seeds are fixed. */
public final class RandomRunsTest {
    private static final int[] ODD = {Integer.MIN_VALUE, -65, -64, -2, -1, 64, 65, 4096, 32768, Integer.MAX_VALUE};

    private final Check check = new Check();
    private final Random random;
    private final MoveList x = new MoveList();
    private final Oracle o = new Oracle();
    private final int seed;

    private RandomRunsTest(int seed) {
        this.seed = seed;
        random = new Random(seed);
    }

    private int below(int n) {
        return random.nextInt(n);
    }

    private void put(int square, int piece) {
        check.due("seed " + seed + " put(" + square + ", " + piece + ")",
                Check.answer(() -> x.put(square, piece)), Check.answer(() -> o.put(square, piece)));
    }

    private void state(int side, int rights, int passing) {
        check.due("seed " + seed + " state(" + side + ", " + rights + ", " + passing + ")",
                Check.answer(() -> x.state(side, rights, passing)),
                Check.answer(() -> o.state(side, rights, passing)));
    }

    private void setUp() {
        int style = below(6);
        if (style == 0) {
            x.begin();
            o.begin();
            return;
        }
        x.clear();
        o.clear();
        boolean home = below(2) == 0;
        int white = home ? 4 : below(64);
        int black = home ? 60 : below(64);
        int men = style == 1 ? below(60) : below(24);
        for (int i = 0; i < men; i++) {
            put(below(64), style == 2 ? (below(2) == 0 ? 1 : 7) : style == 3 ? 1 + 6 * below(2) + below(5) : below(13));
        }
        for (int s = 0; s < 64; s++) {
            if (x.at(s) == 6 || x.at(s) == 12) {
                put(s, 0);
            }
        }
        if (home) {
            int[] corners = {0, 7, 56, 63};
            for (int i = 0; i < 4; i++) {
                if (below(4) != 0) {
                    put(corners[i], i < 2 ? 4 : 10);
                }
                if (below(3) != 0) {
                    for (int k = 1; k < 4; k++) {
                        put(i % 2 == 0 ? corners[i] + k : corners[i] - Math.min(k, 2), 0);
                    }
                }
            }
        }
        put(white, 6);
        if (below(20) != 0 || white != black) {
            put(black, 12);
        }
        int side = below(2);
        int passing = below(3) == 0 ? passingOf(side) : below(2) == 0 ? MoveList.NONE : below(64);
        state(side, below(3) == 0 ? below(16) : 15, passing);
    }

    /** A square behind a pawn of the other side, so that taking in passing comes up often. */
    private int passingOf(int side) {
        int start = below(64);
        for (int i = 0; i < 64; i++) {
            int s = (start + i) % 64;
            int to = side == 0 ? s + 8 : s - 8;
            if (x.at(s) == (side == 0 ? 7 : 1) && to >= 0 && to < 64 && x.at(to) == 0) {
                return to;
            }
        }
        return MoveList.NONE;
    }

    private int someMove() {
        if (o.playable() && below(3) != 0) {
            List<Integer> all = o.list();
            if (!all.isEmpty()) {
                int move = all.get(below(all.size()));
                return below(4) == 0 ? move ^ 4096 << below(3) : move;
            }
        }
        return below(5) == 0 ? ODD[below(ODD.length)] : below(64 * 64 * 6);
    }

    private int square() {
        return below(8) == 0 ? ODD[below(ODD.length)] : below(64);
    }

    /** Depth 3 only where few moves are, as the oracle is slow. */
    private int depth() {
        if (below(6) == 0) {
            return below(2) == 0 ? 4 : ODD[below(ODD.length)];
        }
        return below(o.playable() && o.count() < 15 ? 4 : 3);
    }

    private void call() {
        int m = someMove();
        int s = square();
        boolean w = below(2) == 0;
        String at = "seed " + seed + " ";
        switch (below(14)) {
            case 0: check.due(at + "count()", Check.answer(() -> (Object) x.count()), Check.answer(() -> (Object) o.count())); break;
            case 1: check.due(at + "move(" + s + ")", Check.answer(() -> (Object) x.move(s)), Check.answer(() -> (Object) o.move(s))); break;
            case 2: check.due(at + "place(" + m + ")", Check.answer(() -> (Object) x.place(m)), Check.answer(() -> (Object) o.place(m))); break;
            case 3: check.due(at + "on(" + s + ", " + w + ")", Check.answer(() -> (Object) x.on(s, w)), Check.answer(() -> (Object) o.on(s, w))); break;
            case 4: case 5: check.due(at + "kind(" + m + ")", Check.answer(() -> (Object) x.kind(m)), Check.answer(() -> (Object) o.kind(m))); break;
            case 6: {
                int d = depth();
                check.due(at + "lines(" + d + ")", Check.answer(() -> (Object) x.lines(d)), Check.answer(() -> (Object) o.lines(d)));
                break;
            }
            case 7: case 8: case 9: check.due(at + "make(" + m + ")", Check.answer(() -> (Object) x.make(m)), Check.answer(() -> (Object) o.make(m))); break;
            case 10: check.due(at + "unmake()", x.unmake(), o.unmake()); break;
            case 11: check.due(at + "check()", Check.answer(() -> (Object) x.check()), Check.answer(() -> (Object) o.check())); break;
            case 12: check.due(at + "pinned()", Check.answer(() -> (Object) x.pinned()), Check.answer(() -> (Object) o.pinned())); break;
            default:
                if (below(6) == 0) {
                    put(s, below(14) - (below(10) == 0 ? 1 : 0));
                } else if (below(6) == 0) {
                    state(below(10) == 0 ? s : below(2), below(10) == 0 ? s : below(16), s);
                } else {
                    check.due(at + "at(" + s + ")", x.at(s), o.at(s));
                }
        }
    }

    private void seen() {
        for (int s = -1; s <= 64; s++) {
            check.due("seed " + seed + " at(" + s + ")", x.at(s), o.at(s));
        }
        for (int i = -1; i <= 4; i++) {
            check.due("seed " + seed + " look(" + i + ")", x.look(i), o.look(i));
        }
        check.due("seed " + seed + " playable()", x.playable(), o.playable());
    }

    private void wholeList() {
        if (!o.playable()) {
            return;
        }
        List<Integer> all = o.list();
        check.due("seed " + seed + " count()", x.count(), all.size());
        for (int i = 0; i < Math.min(all.size(), x.count()); i++) {
            check.due("seed " + seed + " move(" + i + ")", x.move(i), all.get(i));
        }
    }

    private void run() {
        setUp();
        seen();
        wholeList();
        for (int i = 0; i < 25; i++) {
            call();
        }
        seen();
        wholeList();
    }

    public static void main(String[] args) {
        int first = args.length > 0 ? Integer.parseInt(args[0]) : 1;
        int runs = args.length > 1 ? Integer.parseInt(args[1]) : 1500;
        int wrong = 0;
        for (int seed = first; seed < first + runs; seed++) {
            RandomRunsTest test = new RandomRunsTest(seed);
            test.run();
            wrong += test.check.wrong();
        }
        System.out.println(runs + " runs, " + wrong + " answers not as due");
        if (wrong != 0) {
            System.exit(1);
        }
    }
}
