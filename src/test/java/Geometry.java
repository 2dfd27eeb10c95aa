import java.util.function.IntPredicate;

/** Where pieces reach on a board that is empty but for them, by differences of files and ranks. */
final class Geometry {
    private Geometry() {
    }

    static int files(int a, int b) {
        return Math.abs(a % 8 - b % 8);
    }

    static int ranks(int a, int b) {
        return Math.abs(a / 8 - b / 8);
    }

    static int steps(int a, int b) {
        return Math.max(files(a, b), ranks(a, b));
    }

    static int sideOf(int piece) {
        return (piece - 1) / 6;
    }

    static int typeOf(int piece) {
        return (piece - 1) % 6 + 1;
    }

    static boolean straight(int a, int b) {
        return a != b && (files(a, b) == 0 || ranks(a, b) == 0);
    }

    static boolean aslant(int a, int b) {
        return a != b && files(a, b) == ranks(a, b);
    }

    static boolean knight(int a, int b) {
        return files(a, b) * ranks(a, b) == 2;
    }

    static boolean reaches(int piece, int a, int b) {
        switch (typeOf(piece)) {
            case 1:
                return files(a, b) == 1 && b / 8 - a / 8 == (sideOf(piece) == 0 ? 1 : -1);
            case 2:
                return knight(a, b);
            case 3:
                return aslant(a, b);
            case 4:
                return straight(a, b);
            case 5:
                return straight(a, b) || aslant(a, b);
            default:
                return steps(a, b) == 1;
        }
    }

    /** Whether a square is strictly between two others, on a line with both. */
    static boolean between(int square, int a, int b) {
        boolean line = straight(a, b) || aslant(a, b);
        boolean on = straight(a, square) && straight(square, b) && straight(a, b)
                || aslant(a, square) && aslant(square, b) && aslant(a, b);
        return line && on && steps(a, square) + steps(square, b) == steps(a, b);
    }

    /** The first square that will do. */
    static int find(IntPredicate will) {
        for (int s = 0; s < 64; s++) {
            if (will.test(s)) {
                return s;
            }
        }
        throw new AssertionError("no square will do");
    }

    static String name(int square) {
        return "" + (char) ('a' + square % 8) + (char) ('1' + square / 8);
    }
}
