import java.util.LinkedHashMap;
import java.util.Map;
import java.util.function.Consumer;
import java.util.function.Function;

/**
 * The sentences on making moves and taking them back, on what a move does and on COUNTING, on what setting up
 * forgets, and the limits: 200 moves that can be taken back, depth 3, 512 calls.
 */
public final class EdgesOfMakingTest {
    private static final Check CHECK = new Check();
    private static final String MATE = "R5k1/5ppp/8/8/8/8/8/K7 b - -";
    private static final String STALEMATE = "7k/5Q2/8/8/8/8/8/K7 b - -";
    private static final String KIWIPETE = "r3k2r/p1ppqpb1/bn2pnp1/3PN3/1p2P3/2N2Q1p/PPPBBPPP/R3K2R w KQkq -";

    private static void due(String what, Object got, Object want) {
        CHECK.due(what, got, want);
    }

    /** "if a pawn of the other side ATTACKS it (legal or not), else NONE": with a piece on any square. */
    private static void passed() {
        for (int file = 0; file < 8; file++) {
            for (int side = 0; side < 2; side++) {
                int from = side == 0 ? 8 + file : 48 + file;
                int over = side == 0 ? from + 8 : from - 8;
                int to = side == 0 ? from + 16 : from - 16;
                for (int s = 0; s < 64; s++) {
                    if (s != from && s != over && s != to) {
                        passedNear(from, over, to, s, side);
                    }
                }
            }
        }
    }

    private static void passedNear(int from, int over, int to, int s, int side) {
        int own = Geometry.find(k -> k != s && k % 8 != from % 8 && Geometry.steps(k, s) > 1 && !Geometry.knight(k, s));
        int other = Geometry.find(k -> k != s && k % 8 != from % 8 && Geometry.steps(k, own) > 1 && Geometry.steps(k, from) > 1
                && Geometry.steps(k, to) > 1 && Geometry.steps(k, s) > 1 && !Geometry.knight(k, s));
        int otherPawn = 7 - 6 * side;
        int[] men = {otherPawn, 8 - otherPawn, otherPawn + 1, 9 - otherPawn};
        for (int man : men) {
            Game x = new Game();
            x.put(from, 1 + 6 * side);
            x.put(own, 6 + 6 * side);
            x.put(other, 12 - 6 * side);
            x.put(s, man);
            x.state(side, 0, -1);
            x.make(from + 64 * to);
            boolean set = man == otherPawn && Geometry.reaches(otherPawn, s, over);
            due("13 PASSING behind " + Geometry.name(from) + Geometry.name(to) + " with piece " + man + " on "
                    + Geometry.name(s), x.looks(), (1 - side) + " 0 " + (set ? over : -1) + " 1");
        }
    }

    /** "PASSING is the square that a pawn passed that went two ranks ..., else NONE" */
    private static void passedByOthers() {
        String[][] rows = {
            {"one rank", "4k3/8/8/8/3p4/8/4P3/4K3 w - -", "e2e3", "-1"},
            {"two ranks", "4k3/8/8/8/3p4/8/4P3/4K3 w - -", "e2e4", "20"},
            {"a rook", "4k3/8/8/8/3p4/8/R7/4K3 w - -", "a2a4", "-1"},
            {"a rook beside the pawn", "5k2/8/8/8/3p4/8/4R3/6K1 w - -", "e2e4", "-1"},
            {"a queen", "5k2/8/8/8/3p4/8/4Q3/6K1 w - -", "e2e4", "-1"},
            {"a knight", "5k2/8/8/8/3p4/8/4N3/6K1 w - -", "e2f4", "-1"},
            {"a bishop", "5k2/8/8/8/3p4/8/4B3/6K1 w - -", "e2g4", "-1"},
            {"castling", "4k3/8/8/8/8/8/8/R3K3 w Q d6", "e1c1", "-1"},
            {"a black rook", "4k3/4r3/8/3P4/8/8/8/6K1 b - -", "e7e5", "-1"},
            {"a black pawn", "4k3/4p3/8/3P4/8/8/8/6K1 b - -", "e7e5", "44"},
            {"a black pawn, one rank", "4k3/4p3/8/3P4/8/8/8/6K1 b - -", "e7e6", "-1"},
            {"on both sides", "4k3/8/8/8/3p1p2/8/4P3/4K3 w - -", "e2e4", "20"},
            {"taking in passing is not legal: pinned aslant", "7k/8/8/8/3p4/8/1B2P3/4K3 w - -", "e2e4", "20"},
            {"taking in passing is not legal: pinned along", "3k4/8/8/8/3p4/8/4P3/3RK3 w - -", "e2e4", "20"},
            {"taking in passing is not legal: in check", "8/8/k7/8/3p4/8/4P3/4KB2 w - -", "e2e4", "20"},
            {"mate, PASSING all the same", "8/8/7Q/5k1B/3K1p2/P4R2/1N2P3/8 w - -", "e2e4", "20"},
            {"it was there before", "4k3/8/8/3pP3/8/8/8/4K3 w - d6", "e1e2", "-1"},
            {"it is taken", "4k3/8/8/3pP3/8/8/8/4K3 w - d6", "e5d6", "-1"},
            {"a new one for an old one", "4k3/8/8/3pP3/5p2/8/6P1/4K3 w - d6", "g2g4", "22"}};
        for (String[] row : rows) {
            Game x = Setup.of(row[1]);
            String before = x.look(2);
            x.make(row[2]);
            due("13 PASSING, " + row[0], x.look(2) + " " + x.look(3), row[3] + " 1");
            x.unmake();
            due("14 PASSING, " + row[0], x.look(2), before);
        }
    }

    /** Each bit of a kind with the nearest move that has it not. */
    private static void kinds() {
        String[][] rows = {
            {"7k/8/8/8/8/r7/8/R3K3 w - -", "a1a3", "1"}, {"7k/8/8/8/8/r7/8/R3K3 w - -", "a1a2", "0"},
            {"7k/8/8/3pP3/8/8/8/4K3 w - d6", "e5d6", "3"}, {"7k/8/3n4/3pP3/8/8/8/4K3 w - d6", "e5d6", "1"},
            {"7k/8/8/3pP3/8/8/8/4K3 w - d6", "e5e6", "0"}, {"4K3/8/8/8/3pP3/8/8/7k b - e3", "d4e3", "3"},
            {"4K3/8/8/8/3pP3/8/8/7k b - e3", "d4d3", "0"}, {"7k/8/3n4/4P3/8/8/8/4K3 w - -", "e5d6", "1"},
            {"6k1/8/8/8/8/8/8/R3K2R w KQ -", "e1c1", "4"}, {"7k/8/8/8/8/8/8/R3K3 w Q -", "e1d1", "0"},
            {"k7/8/8/8/8/8/8/4K2R w K -", "e1g1", "4"}, {"k7/8/8/8/8/8/8/4K2R w K -", "h1f1", "0"},
            {"r3k3/8/8/8/8/8/8/7K b q -", "e8c8", "4"}, {"4k2r/8/8/8/8/8/8/K7 b k -", "e8g8", "4"},
            {"k7/8/8/8/8/8/K7/4Q2R w K -", "e1g1", "0"}, {"k7/8/8/8/8/8/K7/4R2R w K -", "e1g1", "0"},
            {"8/1P6/8/8/8/8/8/K6k w - -", "b7b8n", "8"},
            {"8/8/1P6/8/8/8/8/K5k1 w - -", "b6b7", "0"},
            {"8/1R6/8/8/8/8/8/K5k1 w - -", "b7b8", "0"},
            {"n7/1P6/8/8/8/8/8/K5k1 w - -", "b7a8r", "9"}, {"7K/8/8/8/8/8/6p1/k6N b - -", "g2h1b", "9"},
            {"8/3pP3/8/8/8/8/8/K5k1 w - d8", "e7d8b", "11"}};
        for (String[] row : rows) {
            due("11 " + row[0] + " " + row[1], Game.parts(Setup.of(row[0]).kind(row[1]), 15), row[2]);
        }
    }

    /** "16 it gives check" */
    private static void checks() {
        String[][] rows = {
            {"a pawn", "8/8/8/3k4/8/8/4P3/7K w - -", "e2e4", "16"},
            {"a pawn, one rank short", "8/8/8/3k4/8/8/4P3/7K w - -", "e2e3", "0"},
            {"a knight", "7k/8/8/4N3/8/8/8/K7 w - -", "e5f7", "16"},
            {"a knight beside", "7k/8/8/4N3/8/8/8/K7 w - -", "e5d7", "0"},
            {"a bishop", "7k/8/8/8/8/8/B7/K7 w - -", "a2d5", "0"},
            {"a bishop", "k7/8/8/8/8/8/B7/K7 w - -", "a2d5", "16"},
            {"a rook", "k7/8/8/8/8/8/1R6/7K w - -", "b2a2", "16"},
            {"a rook behind a piece", "k7/n7/8/8/8/8/1R6/7K w - -", "b2a2", "0"},
            {"a queen aslant", "k7/8/8/8/8/1Q6/8/7K w - -", "b3f3", "16"},
            {"a queen along", "k7/8/8/8/8/1Q6/8/7K w - -", "b3a3", "16"},
            {"a queen, neither", "k7/8/8/8/8/1Q6/8/7K w - -", "b3c3", "0"},
            {"the king opens a line", "k7/8/8/8/8/8/K7/R7 w - -", "a2b2", "16"},
            {"the king stays on the line", "k7/8/8/8/8/8/K7/R7 w - -", "a2a3", "0"},
            {"a pawn opens a line", "k7/8/8/8/8/5P2/8/K6B w - -", "f3f4", "16"},
            {"castling's rook", "5k2/8/8/8/8/8/8/4K2R w K -", "e1g1", "16"},
            {"castling's rook, the other way", "3k4/8/8/8/8/8/8/R3K3 w Q -", "e1c1", "16"},
            {"becomes a queen", "8/1P6/8/8/8/8/1k6/7K w - -", "b7b8q", "16"},
            {"becomes a knight", "8/1P6/8/8/8/8/1k6/7K w - -", "b7b8n", "0"},
            {"becomes a knight that does", "8/1P1k4/8/8/8/8/8/7K w - -", "b7b8n", "16"},
            {"becomes a bishop", "8/1P1k4/8/8/8/8/8/7K w - -", "b7b8b", "0"},
            {"becomes a bishop that does", "8/1P6/3k4/8/8/8/8/7K w - -", "b7b8b", "16"},
            {"becomes a rook", "8/1P6/3k4/8/8/8/8/7K w - -", "b7b8r", "0"},
            {"becomes a rook that does", "6k1/1P6/8/8/8/8/8/7K w - -", "b7b8r", "16"},
            {"in passing, the pawn itself", "8/2k5/8/3pP3/8/8/8/4K3 w - d6", "e5d6", "16"},
            {"in passing, its file opens", "4k3/8/8/3pP3/8/8/8/K3R3 w - d6", "e5d6", "16"},
            {"in passing, the taken pawn's line opens", "6k1/8/8/3pP3/8/8/B7/4K3 w - d6", "e5d6", "16"},
            {"out of check without one", "4r2k/8/8/8/8/8/8/4K3 w - -", "e1d1", "0"},
            {"out of check with one", "7k/8/8/8/3K4/8/1B6/3r4 w - -", "d4e3", "16"},
            {"black's", "k7/8/8/4r3/8/8/8/7K b - -", "e5e1", "16"},
            {"black's pawn", "k7/8/8/8/8/6p1/8/7K b - -", "g3g2", "16"}};
        for (String[] row : rows) {
            due("11 " + row[0], Game.parts(Setup.of(row[1]).kind(row[2]), 16), row[3]);
        }
    }

    /** "32 the other side has no LEGAL move then" */
    private static void endings() {
        String[][] rows = {
            {"mate", "6k1/5ppp/8/8/8/8/8/K3R3 w - -", "e1e8", "48"},
            {"one square is left", "6k1/5pp1/8/8/8/8/8/K3R3 w - -", "e1e8", "16"},
            {"a piece comes between", "6k1/5ppp/8/8/8/4n3/3r4/K1R5 w - -", "c1c8", "16"},
            {"the piece is taken", "b5k1/5ppp/8/2p5/8/8/8/K3R3 w - -", "e1e8", "48"},
            {"the piece is taken", "6k1/5ppp/8/1b6/8/8/8/K3R3 w - -", "e1e8", "16"},
            {"stalemate", "7k/8/8/5Q2/8/8/8/K7 w - -", "f5f7", "32"},
            {"a pawn is left", "7k/8/8/5Q2/8/p7/8/K7 w - -", "f5f7", "0"},
            {"a pawn is left that is blocked", "7k/8/8/5Q2/8/8/p7/K7 w - -", "f5f7", "32"},
            {"only taking in passing is left", "8/4Q3/7p/5k1K/3p4/8/4P2p/2B5 w - -", "e2e4", "16"},
            {"and that is not legal", "8/8/7Q/5k1B/3K1p2/P4R2/1N2P3/8 w - -", "e2e4", "48"},
            {"mate by what a pawn becomes", "6k1/1P3ppp/8/8/8/8/8/K7 w - -", "b7b8r", "56"},
            {"not by a knight", "6k1/1P3ppp/8/8/8/8/8/K7 w - -", "b7b8n", "8"},
            {"mate by taking", "4r1k1/5ppp/8/8/8/8/8/K3R3 w - -", "e1e8", "49"},
            {"black's mate", "k3r3/8/8/8/8/8/5PPP/6K1 b - -", "e8e1", "48"},
            {"black's stalemate", "k7/8/8/8/5q2/8/8/7K b - -", "f4f2", "32"}};
        for (String[] row : rows) {
            Game x = Setup.of(row[1]);
            due("11 " + row[0], x.kind(row[2]), row[3]);
            boolean over = (Integer.parseInt(row[3]) & 32) != 0;
            boolean check = (Integer.parseInt(row[3]) & 16) != 0;
            due("13 " + row[0], x.make(row[2]).equals("0"), over);
            due("16 " + row[0], x.check(), check);
            due("7 " + row[0], x.count().equals("0"), over);
        }
    }

    /** "1 if d is 0; otherwise the sum, over all LEGAL moves, of the count to d - 1 behind them"; depth 0 .. 3. */
    private static void countingLines() {
        String[] fens = {MATE, STALEMATE, KIWIPETE, "8/2p5/3p4/KP5r/1R3p1k/8/4P1P1/8 w - -", "n1n5/PPPk4/8/8/8/8/4Kppp/5N1N b - -",
            "8/4Q3/7p/5k1K/3p4/8/4P2p/2B5 w - -", "7k/8/8/8/8/8/8/K7 w - -"};
        for (String fen : fens) {
            Game x = Setup.of(fen);
            due("12 depth 0 of " + fen, x.lines(0), 1);
            due("12 depth 1 of " + fen, x.lines(1), x.count());
            long[] sums = new long[4];
            int count = Integer.parseInt(x.count());
            for (int i = 0; i < count; i++) {
                x.make(Integer.parseInt(x.move(i)));
                for (int depth = 1; depth <= 3; depth++) {
                    sums[depth] += Long.parseLong(x.lines(depth - 1));
                }
                x.unmake();
            }
            for (int depth = 1; depth <= 3; depth++) {
                due("12 depth " + depth + " of " + fen, x.lines(depth), sums[depth]);
            }
        }
        Game over = Setup.of(MATE);
        due("12 mate", over.lines(0) + " " + over.lines(1) + " " + over.lines(2) + " " + over.lines(3), "1 0 0 0");
        Game still = Setup.of(STALEMATE);
        due("12 stalemate", still.lines(0) + " " + still.lines(1) + " " + still.lines(2) + " " + still.lines(3), "1 0 0 0");
        Game next = Setup.of("6k1/5ppp/8/8/8/8/8/K3R3 w - -");
        due("12 lines that end in mate", next.lines(2), sumOfCounts("6k1/5ppp/8/8/8/8/8/K3R3 w - -"));
        due("12 promotions", Setup.of("n1n5/PPPk4/8/8/8/8/4Kppp/5N1N b - -").lines(3), 9483);
        due("12 in passing and pins", Setup.of("8/2p5/3p4/KP5r/1R3p1k/8/4P1P1/8 w - -").lines(3), 2812);
    }

    private static long sumOfCounts(String fen) {
        Game x = Setup.of(fen);
        long sum = 0;
        int count = Integer.parseInt(x.count());
        for (int i = 0; i < count; i++) {
            sum += Long.parseLong(x.make(Integer.parseInt(x.move(i))));
            x.unmake();
        }
        return sum;
    }

    /** What a move of each sort does to the board, and that taking it back undoes it all. */
    private static void sorts() {
        String[][] rows = {
            {"goes", "r3k2r/8/8/8/8/8/8/R3K2R w KQkq -", "a1c1", "a1 c1", "0 4"},
            {"takes", "r3k2r/8/8/8/8/8/8/R3K2R w KQkq -", "a1a8", "a1 a8", "0 4"},
            {"the king goes", "r3k2r/8/8/8/8/8/8/R3K2R b KQkq -", "e8d7", "e8 d7", "0 12"},
            {"the king takes", "4k3/8/8/8/8/8/4q3/4K3 w KQkq -", "e1e2", "e1 e2", "0 6"},
            {"castles", "r3k2r/8/8/8/8/8/8/R3K2R w KQkq -", "e1g1", "a1 e1 f1 g1 h1", "4 0 4 6 0"},
            {"castles", "r3k2r/8/8/8/8/8/8/R3K2R w KQkq -", "e1c1", "a1 b1 c1 d1 e1 h1", "0 0 6 4 0 4"},
            {"castles", "r3k2r/8/8/8/8/8/8/R3K2R b KQkq -", "e8g8", "a8 e8 f8 g8 h8", "10 0 10 12 0"},
            {"castles", "r3k2r/8/8/8/8/8/8/R3K2R b KQkq -", "e8c8", "a8 b8 c8 d8 e8 h8", "0 0 12 10 0 10"},
            {"in passing", "4k3/8/8/3pPp2/8/8/8/4K3 w - d6", "e5d6", "e5 d6 d5 f5", "0 1 0 7"},
            {"in passing", "4k3/8/8/3pPp2/8/8/8/4K3 w - f6", "e5f6", "e5 f6 d5 f5", "0 1 7 0"},
            {"in passing", "4k3/8/8/8/3pP3/8/8/4K3 b - e3", "d4e3", "d4 e3 e4", "0 7 0"},
            {"in passing on the last rank", "8/3pP3/8/8/8/8/8/K6k w - d8", "e7d8q", "e7 d8 d7", "0 5 0"},
            {"two ranks", "4k3/8/8/8/3p4/8/4P3/4K3 w - -", "e2e4", "e2 e3 e4", "0 0 1"},
            {"two ranks", "4k3/3p4/8/4P3/8/8/8/4K3 b - -", "d7d5", "d7 d6 d5", "0 0 7"},
            {"becomes a knight", "7k/1P6/8/8/8/8/8/K7 w - -", "b7b8n", "b7 b8", "0 2"},
            {"becomes a bishop", "7k/1P6/8/8/8/8/8/K7 w - -", "b7b8b", "b7 b8", "0 3"},
            {"becomes a rook", "7k/1P6/8/8/8/8/8/K7 w - -", "b7b8r", "b7 b8", "0 4"},
            {"becomes a queen", "7k/1P6/8/8/8/8/8/K7 w - -", "b7b8q", "b7 b8", "0 5"},
            {"becomes a black knight", "7K/8/8/8/8/8/1p6/k7 b - -", "b2b1n", "b2 b1", "0 8"},
            {"becomes a black bishop", "7K/8/8/8/8/8/1p6/k7 b - -", "b2b1b", "b2 b1", "0 9"},
            {"becomes a black rook", "7K/8/8/8/8/8/1p6/k7 b - -", "b2b1r", "b2 b1", "0 10"},
            {"becomes a black queen", "7K/8/8/8/8/8/1p6/k7 b - -", "b2b1q", "b2 b1", "0 11"},
            {"takes in a corner and becomes a queen", "r3k3/1P6/8/8/8/8/8/4K3 w KQkq -", "b7a8q", "b7 a8", "0 5"},
            {"takes in a corner and becomes a rook", "4k3/8/8/8/8/8/6p1/4K2R b KQkq -", "g2h1r", "g2 h1", "0 10"}};
        for (String[] row : rows) {
            Game x = Setup.of(row[1]);
            String before = x.seen();
            due("13 " + row[0] + " " + row[2], x.make(row[2]), x.count());
            due("13 " + row[0] + " " + row[2], x.at(row[3]) + " " + x.look(3), row[4] + " 1");
            due("18 " + row[0] + " " + row[2], x.look(0), row[1].contains(" w ") ? 1 : 0);
            due("14 " + row[0] + " " + row[2], x.unmake(), Setup.move(row[2]));
            due("14 " + row[0] + " " + row[2], x.seen(), before);
            due("14 " + row[0] + " " + row[2] + " can be made again", x.make(row[2]).startsWith("throws"), false);
            due("13 " + row[0] + " " + row[2], x.at(row[3]), row[4]);
            due("14 " + row[0] + " " + row[2], x.everything(), Setup.of(row[1]).played(row[2]).everything());
        }
    }

    /** Every move of a rich position is made and taken back, and leaves nothing behind. */
    private static void allMoves() {
        String[] fens = {KIWIPETE, "n1n5/PPPk4/8/8/8/8/4Kppp/5N1N w - -", "4k3/8/8/8/3pPp2/8/8/4K3 b - e3"};
        for (String fen : fens) {
            Game x = Setup.of(fen);
            String list = x.list();
            String[] moves = list.substring(list.indexOf(':') + 2).split(" ");
            for (String move : moves) {
                x.make(Integer.parseInt(move));
                due("14 " + fen, x.unmake(), move);
            }
            due("14 all of " + fen, x.seen() + x.list(), Setup.of(fen).seen() + list);
        }
    }

    /** "The latest move that was made (and was not taken back) is taken back: it; NONE if there is none." */
    private static void takingBack() {
        due("14 a new object", new Game().unmake(), -1);
        CHECK.kept("14 none was made", () -> Setup.of(KIWIPETE), Game::unmake, -1);
        CHECK.kept("14 none can be played", () -> new Game(), Game::unmake, -1);
        Game x = new Game();
        x.begin();
        x.played("e2e4", "e7e5", "g1f3");
        due("14 the latest", x.unmake(), Setup.move("g1f3"));
        due("13 another one", x.make("b1c3"), 29);
        due("14 the latest that was not taken back", x.unmake() + " " + x.unmake(), Setup.move("b1c3") + " " + Setup.move("e7e5"));
        due("18 one is left", x.looks(), "1 15 -1 1");
        due("14 the first", x.unmake() + " " + x.look(3), Setup.move("e2e4") + " 0");
        due("14 none is left", x.unmake() + " " + x.look(3) + " " + x.unmake(), "-1 0 -1");
        due("14 as it began", x.everything(), begun().everything());
    }

    private static Game begun() {
        Game x = new Game();
        x.begin();
        return x;
    }

    /** "Setting up anything forgets the moves that were made", even if it changes nothing else. */
    private static void forgets() {
        forgets("put(e4, 1)", x -> x.put("e4", 1), true);
        forgets("put(a3, 0)", x -> x.put("a3", 0), true);
        forgets("put(a3, 2)", x -> x.put("a3", 2), true);
        forgets("state as it is", x -> x.state(0, 15, Setup.square("d6")), true);
        forgets("state(1, 0, -1)", x -> x.state(1, 0, -1), true);
        forgets("begin()", Game::begin, true);
        forgets("clear()", Game::clear, true);
        forgets("put(64, 0)", x -> x.put(64, 0), false);
        forgets("put(0, 13)", x -> x.put(0, 13), false);
        forgets("state(2, 0, 0)", x -> x.state(2, 0, 0), false);
        forgets("playable()", Game::playable, false);
        forgets("lines(3)", x -> x.lines(3), false);
        forgets("kind(e5d6)", x -> x.kind("e5d6"), false);
        Game x = begun().played("e2e4", "a7a6", "e4e5", "d7d5");
        x.put("a3", 2);
        due("4 all else stays", x.looks() + " " + x.at("e2 e5 d5 a3"), "0 15 43 0 0 1 7 2");
        x.state(0, 15, 43);
        due("5 the board stays", x.looks() + " " + x.at("e2 e5 d5 a3"), "0 15 43 0 0 1 7 2");
        due("13 and the game goes on", x.make("e5d6"), x.count());
        due("14 and the game goes on", x.look(3) + " " + x.unmake() + " " + x.unmake(), "1 " + Setup.move("e5d6") + " -1");
    }

    private static void forgets(String what, Consumer<Game> call, boolean forgets) {
        Game x = begun().played("e2e4", "a7a6", "e4e5", "d7d5");
        call.accept(x);
        due("18 moves behind " + what, x.look(3), forgets ? 0 : 4);
        due("14 the last move behind " + what, x.unmake(), forgets ? -1 : Setup.move("d7d5"));
        due("18 moves behind " + what, x.look(3), forgets ? 0 : 3);
    }

    /** "at most 200 can be taken back", "UnsupportedOperationException if 200 moves can be taken back" */
    private static void twoHundred() {
        Game x = Standings.made(199);
        due("13 with 199 made", x.look(3) + " " + x.make("d7f6").startsWith("throws") + " " + x.look(3), "199 false 200");
        due("13 with 200 made", x.make("b1c3") + " " + x.look(3), Game.UNSUPPORTED + " 200");
        due("13 with 200 made, not legal", x.make("b1b3") + " " + x.look(3), Game.ARGUMENT + " 200");
        due("14 with 200 made", x.unmake() + " " + x.look(3), Setup.move("d7f6") + " 199");
        due("13 with 199 made again", x.make("d7b8") + " " + x.look(3), x.count() + " 200");
        due("13 with 200 made again", x.make("b1c3") + " " + x.look(3), Game.UNSUPPORTED + " 200");
        due("14 what was made last", x.unmake(), Setup.move("d7b8"));
        for (int i = 198; i >= 0; i--) {
            due("14 move " + i, x.unmake(), Setup.move(Standings.moveOf(i)));
        }
        due("14 none is left", x.unmake() + " " + x.looks(), "-1 0 15 -1 0");
    }

    private static void twoHundredBoard() {
        Game x = Standings.made(200);
        for (int i = 0; i < 200; i++) {
            x.unmake();
        }
        due("14 as it began", x.seen() + x.count(), begun().seen() + 20);
        Game y = Standings.made(200);
        due("11 with 200 made", y.kind("b1c3"), 0);
        due("12 with 200 made", y.lines(3) + " " + y.look(3), lines3() + " 200");
        y.state(0, 0, -1);
        due("13 all 200 forgotten", y.make("b1c3").startsWith("throws") + " " + y.look(3), "false 1");
        Game z = Standings.made(200);
        z.put("h3", 0);
        due("13 all 200 forgotten", z.make("b1c3").startsWith("throws") + " " + z.look(3), "false 1");
    }

    /** The same position as behind 200 moves, with only those behind it that are needed to come there. */
    private static String lines3() {
        return Standings.made(16).lines(3);
    }

    /** "An object is used for at most 512 calls": the 512th still answers, whatever it is. */
    private static void manyCalls() {
        lastOf512("begin", Game::begin, Game.DONE);
        lastOf512("clear", Game::clear, Game.DONE);
        lastOf512("put", x -> x.put(0, 0), Game.DONE);
        lastOf512("put", x -> x.put(64, 0), Game.INDEX);
        lastOf512("state", x -> x.state(1, 0, -1), Game.DONE);
        lastOf512("state", x -> x.state(2, 0, -1), Game.ARGUMENT);
        lastOf512("playable", Game::playable, true);
        lastOf512("count", Game::count, 20);
        lastOf512("move", x -> x.move(19), 1999);
        lastOf512("move", x -> x.move(20), Game.INDEX);
        lastOf512("place", x -> x.place("e2e4"), 13);
        lastOf512("on", x -> x.on(12, true), 2);
        lastOf512("kind", x -> x.kind("e2e4"), 0);
        lastOf512("kind", x -> x.kind("e2e5"), Game.ARGUMENT);
        lastOf512("lines", x -> x.lines(3), 8902);
        lastOf512("make", x -> x.make("e2e4"), 20);
        lastOf512("make", x -> x.make("e2e5"), Game.ARGUMENT);
        lastOf512("unmake", Game::unmake, -1);
        lastOf512("at", x -> x.at(63), 10);
        lastOf512("check", Game::check, false);
        lastOf512("pinned", Game::pinned, 0);
        lastOf512("look", x -> x.look(1), 15);
        Game back = begun();
        while (back.left() > 1) {
            back.make("e2e4");
            back.unmake();
        }
        due("13 made and taken back 255 times, then made", back.make("e2e4"), 20);
        Game deep = begun();
        while (deep.left() > 1) {
            deep.lines(2);
        }
        due("12 counted 510 times, then once more", deep.lines(3), 8902);
        Game refused = begun();
        while (refused.left() > 1) {
            refused.make(-1);
        }
        due("7 refused 510 times, then asked", refused.count(), 20);
        Game full = Standings.made(200);
        while (full.left() > 200) {
            full.make("b1c3");
        }
        for (int i = 199; i >= 0; i--) {
            due("14 move " + i + " in the last calls", full.unmake(), Setup.move(Standings.moveOf(i)));
        }
        due("no call is left", full.left(), 0);
    }

    /** A move stands and can be taken back by the 512th call, whatever was asked between. */
    private static void manyQuestions() {
        Map<String, Function<Game, String>> questions = new LinkedHashMap<>();
        questions.put("playable", Game::playable);
        questions.put("count", Game::count);
        questions.put("move", x -> x.move(19));
        questions.put("move, none such", x -> x.move(20));
        questions.put("place", x -> x.place("e7e5"));
        questions.put("on", x -> x.on(52, true));
        questions.put("kind", x -> x.kind("e7e5"));
        questions.put("kind, not legal", x -> x.kind("e2e4"));
        questions.put("lines", x -> x.lines(2));
        questions.put("lines, none such", x -> x.lines(4));
        questions.put("make, not legal", x -> x.make("e2e4"));
        questions.put("make and unmake", x -> x.make("e7e5") + x.unmake());
        questions.put("at", x -> x.at(28));
        questions.put("check", Game::check);
        questions.put("pinned", Game::pinned);
        questions.put("look", x -> x.look(2));
        questions.put("put, none such", x -> x.put(64, 0));
        questions.put("state, none such", x -> x.state(2, 0, -1));
        for (Map.Entry<String, Function<Game, String>> question : questions.entrySet()) {
            Game x = begun().played("e2e4");
            String first = question.getValue().apply(x);
            String last = first;
            while (x.left() > 3) {
                last = question.getValue().apply(x);
            }
            due("the same in the last calls: " + question.getKey(), last, first);
            due("13 the move stands in the last calls: " + question.getKey(), x.look(3), 1);
            while (x.left() > 1) {
                x.at(0);
            }
            due("14 the 512th call behind: " + question.getKey(), x.unmake(), Setup.move("e2e4"));
        }
    }

    private static Game begun512() {
        Game x = begun();
        while (x.left() > 1) {
            x.look(0);
        }
        return x;
    }

    private static void lastOf512(String what, Function<Game, String> call, Object want) {
        due("the 512th call: " + what, call.apply(begun512()), want);
    }

    public static void main(String[] args) {
        passed();
        passedByOthers();
        kinds();
        checks();
        endings();
        countingLines();
        sorts();
        allMoves();
        takingBack();
        forgets();
        twoHundred();
        twoHundredBoard();
        manyCalls();
        manyQuestions();
        CHECK.end();
    }
}
