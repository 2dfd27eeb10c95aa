import java.util.LinkedHashMap;
import java.util.List;
import java.util.Map;
import java.util.function.Function;
import java.util.function.Supplier;

/**
 * Every sentence that says when an exception is thrown, and every 'NONE if', '0 if' and 'if there is none':
 * the case itself, the last one on this side of the edge, which of two exceptions comes, and that nothing has
 * changed behind it.
 */
public final class EdgesOfRefusalTest {
    private static final Check CHECK = new Check();
    private static final int MIN = Integer.MIN_VALUE;
    private static final int MAX = Integer.MAX_VALUE;
    private static final int[] NO_SQUARES = {-1, 64, -2, 65, -64, 127, 128, 256, MIN, MIN + 63, MAX};
    private static final int[] NO_PIECES = {-1, 13, -2, 14, -12, 256, MIN, MAX};

    /** Games in which moves have been made, or can be: a call that forgets or changes something is seen. */
    private static final Map<String, Supplier<Game>> PLAYABLE = new LinkedHashMap<>();

    /** Games that can not be PLAYED, each for another reason. */
    private static final Map<String, Supplier<Game>> UNPLAYABLE = new LinkedHashMap<>();

    static {
        PLAYABLE.put("a game with PASSING", () -> Standings.made(4));
        PLAYABLE.put("a game behind castling", () -> Standings.made(16));
        PLAYABLE.put("200 moves made", () -> Standings.made(200));
        PLAYABLE.put("set up", () -> Setup.of("r3k2r/8/8/3pP3/8/8/8/R3K2R w KQkq d6"));
        PLAYABLE.put("set up for black", () -> Setup.of("r3k2r/8/8/8/3pP3/8/8/R3K2R b Kq e3"));
        PLAYABLE.put("in check", () -> Setup.of("4k3/8/8/8/4r3/8/8/R3K2R w KQ -"));
        PLAYABLE.put("few pieces", () -> Setup.of("4k3/8/8/8/8/8/5PPP/6K1 b - -").played("e8d7", "f2f3", "d7c6"));
        UNPLAYABLE.put("a new object", Game::new);
        UNPLAYABLE.put("no king", () -> Setup.of("r6r/8/8/3pP3/8/8/8/R6R w KQkq d6"));
        UNPLAYABLE.put("no black king", () -> Setup.of("r6r/8/8/3pP3/8/8/8/R3K2R w KQkq d6"));
        UNPLAYABLE.put("no white king", () -> Setup.of("r3k2r/8/8/3pP3/8/8/8/R6R w KQkq d6"));
        UNPLAYABLE.put("two white kings", () -> Setup.of("r3k2r/8/8/3pP3/8/8/3K4/R3K2R w KQkq d6"));
        UNPLAYABLE.put("two black kings", () -> Setup.of("r3k2r/2k5/8/3pP3/8/8/8/R3K2R w KQkq d6"));
        UNPLAYABLE.put("two kings of each", () -> Setup.of("r3k2r/2k5/8/3pP3/8/8/3K4/R3K2R b KQkq -"));
        UNPLAYABLE.put("black's king attacked", () -> Setup.of("r3k2r/8/8/1B1pP3/8/8/8/R3K2R w KQkq d6"));
        UNPLAYABLE.put("white's king attacked", () -> Setup.of("r3k2r/8/8/3pP3/1b6/8/8/R3K2R b KQkq e3"));
        UNPLAYABLE.put("kings beside one another", () -> Setup.of("8/8/8/3pP3/8/8/4k3/R3K2R b KQ -"));
        UNPLAYABLE.put("a game with a king put beside", () -> {
            Game x = Standings.made(6);
            x.put("a4", 6);
            return x;
        });
    }

    private static void due(String what, Object got, Object want) {
        CHECK.due(what, got, want);
    }

    private static void refused(Map<String, Supplier<Game>> standings, String call, Function<Game, String> asked, Object want) {
        for (Map.Entry<String, Supplier<Game>> standing : standings.entrySet()) {
            CHECK.kept(call + " in: " + standing.getKey(), standing.getValue(), asked, want);
        }
    }

    private static void refusedEverywhere(String call, Function<Game, String> asked, Object want) {
        refused(PLAYABLE, call, asked, want);
        refused(UNPLAYABLE, call, asked, want);
    }

    /** "IndexOutOfBoundsException if there is no such square, IllegalArgumentException if there is no such piece" */
    private static void put() {
        for (int square : NO_SQUARES) {
            refusedEverywhere("4 put(" + square + ", 1)", x -> x.put(square, 1), Game.INDEX);
            refusedEverywhere("4 put(" + square + ", 0)", x -> x.put(square, 0), Game.INDEX);
            for (int piece : new int[] {-1, 13}) {
                refusedEverywhere("4 put(" + square + ", " + piece + ")", x -> x.put(square, piece), Game.INDEX);
            }
        }
        for (int piece : NO_PIECES) {
            for (int square : new int[] {0, 28, 63}) {
                refusedEverywhere("4 put(" + square + ", " + piece + ")", x -> x.put(square, piece), Game.ARGUMENT);
            }
            refusedEverywhere("4 put(64, " + piece + ")", x -> x.put(64, piece), Game.INDEX);
        }
        for (int piece = 0; piece <= 12; piece++) {
            Game x = new Game();
            for (int square = 0; square < 64; square++) {
                due("4 put(" + square + ", " + piece + ")", x.put(square, piece), Game.DONE);
            }
            for (int square = 0; square < 64; square++) {
                due("15 at(" + square + ")", x.at(square), piece);
            }
        }
    }

    /** A square alone gets the piece: what stands on the others, and the state, stay. */
    private static void putAlone() {
        for (int square = 0; square < 64; square++) {
            Game x = Setup.of("rnbqkbnr/pppppppp/8/8/8/8/PPPPPPPP/RNBQKBNR b Kq e3");
            x.put(square, square % 13);
            for (int s = 0; s < 64; s++) {
                String before = Setup.of("rnbqkbnr/pppppppp/8/8/8/8/PPPPPPPP/RNBQKBNR b Kq e3").at(s);
                due("4 at(" + s + ") behind put(" + square + ")", x.at(s), s == square ? "" + square % 13 : before);
            }
            due("4 the state behind put(" + square + ")", x.looks(), "1 9 20 0");
        }
    }

    /** "if there is no such SIDE, RIGHTS are not 0 .. 15, or passing is neither a square nor NONE" */
    private static void state() {
        int[] noSides = {-1, 2, -2, 3, MIN, MAX, 256};
        int[] noRights = {-1, 16, -16, 17, 31, MIN, MAX, 256};
        int[] noPassing = {-2, 64, -64, 65, 128, MIN, MAX, 256};
        for (int side : noSides) {
            refusedEverywhere("5 state(" + side + ", 15, 20)", x -> x.state(side, 15, 20), Game.ARGUMENT);
        }
        for (int rights : noRights) {
            refusedEverywhere("5 state(1, " + rights + ", 20)", x -> x.state(1, rights, 20), Game.ARGUMENT);
        }
        for (int passing : noPassing) {
            refusedEverywhere("5 state(1, 3, " + passing + ")", x -> x.state(1, 3, passing), Game.ARGUMENT);
        }
        refusedEverywhere("5 state(2, 16, 64)", x -> x.state(2, 16, 64), Game.ARGUMENT);
        refusedEverywhere("5 state(-1, 16, -1)", x -> x.state(-1, 16, -1), Game.ARGUMENT);
        for (int side = 0; side < 2; side++) {
            for (int rights = 0; rights <= 15; rights++) {
                Game x = new Game();
                for (int passing = -1; passing < 64; passing++) {
                    due("5 state(" + side + ", " + rights + ", " + passing + ")", x.state(side, rights, passing), Game.DONE);
                    due("18 look behind state", x.looks(), side + " " + rights + " " + passing + " 0");
                }
            }
        }
    }

    /** "IllegalStateException if the position can not be PLAYED (as for all that follow)", before all others. */
    private static void notPlayed() {
        String state = Game.STATE;
        refused(UNPLAYABLE, "7 count()", Game::count, state);
        for (int i : new int[] {0, 1, -1, 300, MIN, MAX}) {
            refused(UNPLAYABLE, "8 move(" + i + ")", x -> x.move(i), state);
        }
        for (int move : new int[] {Setup.move("e1f1"), Setup.move("e5e6"), Setup.move("e8f8"), 0, -1, MIN, MAX}) {
            refused(UNPLAYABLE, "9 place(" + move + ")", x -> x.place(move), state);
            refused(UNPLAYABLE, "11 kind(" + move + ")", x -> x.kind(move), state);
            refused(UNPLAYABLE, "13 make(" + move + ")", x -> x.make(move), state);
        }
        for (int square : new int[] {4, 36, 0, 63, -1, 64, MIN, MAX}) {
            refused(UNPLAYABLE, "10 on(" + square + ", true)", x -> x.on(square, true), state);
            refused(UNPLAYABLE, "10 on(" + square + ", false)", x -> x.on(square, false), state);
        }
        for (int depth : new int[] {0, 1, 2, 3, -1, 4, MIN, MAX}) {
            refused(UNPLAYABLE, "12 lines(" + depth + ")", x -> x.lines(depth), state);
        }
        refused(UNPLAYABLE, "16 check()", Game::check, state);
        refused(UNPLAYABLE, "17 pinned()", Game::pinned, state);
        refused(UNPLAYABLE, "6 playable()", Game::playable, false);
        refused(UNPLAYABLE, "14 unmake()", Game::unmake, -1);
        refused(UNPLAYABLE, "15 at(-1)", x -> x.at(-1), -1);
        refused(UNPLAYABLE, "18 look(3)", x -> x.look(3), 0);
    }

    /** The last position on this side of the edge can be PLAYED: there no call throws. */
    private static void played() {
        refused(PLAYABLE, "6 playable()", Game::playable, true);
        for (Map.Entry<String, Supplier<Game>> standing : PLAYABLE.entrySet()) {
            Game x = standing.getValue().get();
            String first = x.move(0);
            String[] answers = {x.count(), first, x.place(0), x.on(0, true), x.kind(Integer.parseInt(first)), x.lines(0),
                x.lines(1), x.check(), x.pinned()};
            for (String answer : answers) {
                due("an answer in: " + standing.getKey(), answer.startsWith("throws"), false);
            }
        }
    }

    /** "IndexOutOfBoundsException if there is none": move. */
    private static void move() {
        for (int i : new int[] {-1, 300, 1 << 16, MIN, MAX}) {
            refused(PLAYABLE, "8 move(" + i + ")", x -> x.move(i), Game.INDEX);
        }
        refused(PLAYABLE, "8 move(count())", x -> x.move(Integer.parseInt(x.count())), Game.INDEX);
        refused(PLAYABLE, "8 move(count() + 1)", x -> x.move(Integer.parseInt(x.count()) + 1), Game.INDEX);
        refused(PLAYABLE, "8 move(count() - 1) is there", x -> "" + x.move(Integer.parseInt(x.count()) - 1).startsWith("throws"), false);
        refused(PLAYABLE, "8 move(0) is there", x -> "" + x.move(0).startsWith("throws"), false);
        Game one = Setup.of("7k/8/6K1/8/8/8/8/6R1 b - -");
        due("8 one move", one.list(), "1: " + Setup.move("h8g8"));
    }

    /** Mate and stalemate: a LIST of none. */
    private static void emptyList() {
        for (String fen : new String[] {"R5k1/5ppp/8/8/8/8/8/K7 b - -", "7k/5Q2/8/8/8/8/8/K7 b - -", "7k/8/8/8/8/8/5PPP/r5K1 w - -"}) {
            Supplier<Game> over = () -> Setup.of(fen);
            CHECK.kept("7 none: " + fen, over, Game::count, 0);
            CHECK.kept("8 none: " + fen, over, x -> x.move(0), Game.INDEX);
            CHECK.kept("8 none: " + fen, over, x -> x.move(-1), Game.INDEX);
            CHECK.kept("9 none: " + fen, over, x -> x.place("g8f8") + x.place("h8g8") + x.place("g1f1"), "-1-1-1");
            CHECK.kept("10 none: " + fen, over, x -> x.from("g8") + x.from("h8") + x.from("g1") + x.to("g8"), "0000");
            CHECK.kept("11 none: " + fen, over, x -> x.kind("h8g8"), Game.ARGUMENT);
            CHECK.kept("13 none: " + fen, over, x -> x.make("h8g8"), Game.ARGUMENT);
            CHECK.kept("12 none: " + fen, over, x -> x.lines(0) + x.lines(1) + x.lines(2) + x.lines(3), "1000");
            CHECK.kept("6 none: " + fen, over, Game::playable, true);
        }
    }

    /** "NONE if it is not LEGAL", "IllegalArgumentException if it is not LEGAL": place, kind, make. */
    private static void notLegal() {
        String[] moves = {"e2e5", "a1a1", "d4d5", "h8h7q", "e1g1q", "b1b3", "e1e8"};
        for (String move : moves) {
            refused(PLAYABLE, "9 place(" + move + ")", x -> x.place(move), -1);
            refused(PLAYABLE, "11 kind(" + move + ")", x -> x.kind(move), Game.ARGUMENT);
            refused(PLAYABLE, "13 make(" + move + ")", x -> x.make(move), Game.ARGUMENT);
        }
        for (int move : new int[] {-1, 0, 64 * 64 * 8, 64 * 64 * 6, MIN, MAX}) {
            refused(PLAYABLE, "9 place(" + move + ")", x -> x.place(move), -1);
            refused(PLAYABLE, "11 kind(" + move + ")", x -> x.kind(move), Game.ARGUMENT);
            refused(PLAYABLE, "13 make(" + move + ")", x -> x.make(move), Game.ARGUMENT);
        }
    }

    /** Moves that the piece has, but that leave the king ATTACKED, are refused like any others. */
    private static void leavesKing() {
        Supplier<Game> pinned = () -> Setup.of("4r2k/8/8/8/8/8/4N3/4K3 w - -");
        CHECK.kept("9 a pinned knight", pinned, x -> x.place("e2c3"), -1);
        CHECK.kept("11 a pinned knight", pinned, x -> x.kind("e2c3"), Game.ARGUMENT);
        CHECK.kept("13 a pinned knight", pinned, x -> x.make("e2c3"), Game.ARGUMENT);
        CHECK.kept("10 a pinned knight", pinned, x -> x.from("e2") + x.to("c3"), "00");
        Supplier<Game> line = () -> Setup.of("8/8/8/K2pP2r/8/8/8/7k w - d6");
        CHECK.kept("9 in passing", line, x -> x.place("e5d6"), -1);
        CHECK.kept("11 in passing", line, x -> x.kind("e5d6"), Game.ARGUMENT);
        CHECK.kept("13 in passing", line, x -> x.make("e5d6"), Game.ARGUMENT);
        CHECK.kept("10 in passing", line, x -> x.to("d6"), 0);
        Supplier<Game> castle = () -> Setup.of("4kr2/8/8/8/8/8/8/R3K2R w KQ -");
        CHECK.kept("9 castling", castle, x -> x.place("e1g1"), -1);
        CHECK.kept("11 castling", castle, x -> x.kind("e1g1"), Game.ARGUMENT);
        CHECK.kept("13 castling", castle, x -> x.make("e1g1"), Game.ARGUMENT);
    }

    /** "0 if there is none such": on. */
    private static void on() {
        for (int square : NO_SQUARES) {
            refused(PLAYABLE, "10 on(" + square + ", true)", x -> x.on(square, true), 0);
            refused(PLAYABLE, "10 on(" + square + ", false)", x -> x.on(square, false), 0);
        }
        Game x = Setup.of("Q6Q/8/8/3k4/8/2K5/8/Q6Q b - -");
        for (int square = 0; square < 64; square++) {
            due("10 from " + square, x.on(square, true), square == 35 ? x.count() : "0");
        }
        Game y = new Game();
        y.begin();
        for (int square = 0; square < 64; square++) {
            int rank = square / 8;
            int file = square % 8;
            due("10 from " + square, y.on(square, true), rank == 1 || square == 1 || square == 6 ? 2 : 0);
            boolean knight = rank == 2 && (file == 0 || file == 2 || file == 5 || file == 7);
            due("10 to " + square, y.on(square, false), rank == 2 ? knight ? 2 : 1 : rank == 3 ? 1 : 0);
        }
        Game corners = Setup.of("7R/8/8/k7/8/5K2/8/7R w - -");
        due("10 the corners", corners.on(63, true) + " " + corners.on(63, false) + " " + corners.on(7, true) + " " + corners.on(7, false)
                + " " + corners.on(0, false) + " " + corners.on(56, false), "13 0 13 0 1 1");
    }

    /** "depth 0 .. 3. IllegalArgumentException if it is none of these." */
    private static void lines() {
        for (int depth : new int[] {-1, 4, -2, 5, 256, 1 << 16, MIN, MAX}) {
            refused(PLAYABLE, "12 lines(" + depth + ")", x -> x.lines(depth), Game.ARGUMENT);
        }
        refused(PLAYABLE, "12 lines(0)", x -> x.lines(0), 1);
        refused(PLAYABLE, "12 lines(3) is there", x -> "" + x.lines(3).startsWith("throws"), false);
    }

    /** "UnsupportedOperationException if 200 moves can be taken back", behind IllegalArgumentException. */
    private static void full() {
        Supplier<Game> full = () -> Standings.made(200);
        CHECK.kept("13 with 200 made", full, x -> x.make("b1c3"), Game.UNSUPPORTED);
        CHECK.kept("13 with 200 made", full, x -> x.make("h2h3"), Game.UNSUPPORTED);
        CHECK.kept("13 with 200 made, not legal", full, x -> x.make("h2h5"), Game.ARGUMENT);
        CHECK.kept("13 with 200 made, not legal", full, x -> x.make(-1), Game.ARGUMENT);
        CHECK.kept("11 with 200 made", full, x -> x.kind("b1c3"), 0);
        CHECK.kept("9 with 200 made", full, x -> "" + x.legal("b1c3"), true);
        CHECK.kept("12 with 200 made", full, x -> x.lines(2), Standings.made(16).lines(2));
        Supplier<Game> nearly = () -> Standings.made(199);
        CHECK.kept("13 with 199 made, not legal", nearly, x -> x.make("b1c3"), Game.ARGUMENT);
        due("13 with 199 made", nearly.get().make("d7f6").startsWith("throws"), false);
    }

    /** "The piece on a square; NONE if there is none such", "NONE for any other which" */
    private static void atAndLook() {
        for (int square : NO_SQUARES) {
            refusedEverywhere("15 at(" + square + ")", x -> x.at(square), -1);
        }
        refused(PLAYABLE, "15 at(63) is there", x -> "" + x.at(63).equals("-1"), false);
        refused(PLAYABLE, "15 at(0) is there", x -> "" + x.at(0).equals("-1"), false);
        due("15 an empty square", new Game().at(0) + new Game().at(63), "00");
        for (int which : new int[] {-1, 4, -2, 5, 256, 1 << 16, MIN, MAX}) {
            refusedEverywhere("18 look(" + which + ")", x -> x.look(which), -1);
        }
        due("18 looks", Standings.made(4).looks(), "0 15 43 4");
        due("18 looks", Standings.made(16).looks(), "0 0 -1 16");
        due("18 looks", Standings.made(200).looks(), "0 0 -1 200");
        due("18 looks", Setup.of("8/8/8/8/8/8/8/8 b Qk h8").looks(), "1 6 63 0");
    }

    /** Questions that are answered change nothing either, and answer the same again. */
    private static void questions() {
        asked("7 count()", Game::count);
        asked("8 move(0)", x -> x.move(0));
        asked("9 place(move(0))", x -> x.place(Integer.parseInt(x.move(0))));
        asked("10 on(4, true)", x -> x.on(4, true));
        asked("10 on(4, false)", x -> x.on(4, false));
        asked("11 kind(move(0))", x -> x.kind(Integer.parseInt(x.move(0))));
        asked("12 lines(1)", x -> x.lines(1));
        asked("12 lines(2)", x -> x.lines(2));
        asked("12 lines(3)", x -> x.lines(3));
        asked("15 at(0)", x -> x.at(0));
        asked("16 check()", Game::check);
        asked("17 pinned()", Game::pinned);
        asked("18 look(1)", x -> x.look(1));
    }

    private static void asked(String what, Function<Game, String> question) {
        refused(PLAYABLE, what + " twice", x -> question.apply(x).equals(question.apply(x)) + "", true);
    }

    /** "At first the board is empty, SIDE 0, RIGHTS 0, PASSING NONE": a new object, and clear() behind anything. */
    private static void atFirst() {
        String first = new Game().everything();
        StringBuilder board = new StringBuilder();
        for (int s = 0; s < 64; s++) {
            board.append(s % 8 == 7 ? "0 / " : "0 ");
        }
        due("1 a new object", new Game().seen(), board + "0 0 -1 0");
        for (Map<String, Supplier<Game>> standings : List.of(PLAYABLE, UNPLAYABLE)) {
            for (Map.Entry<String, Supplier<Game>> standing : standings.entrySet()) {
                Game x = standing.getValue().get();
                x.clear();
                due("2 clear() in: " + standing.getKey(), x.everything(), first);
                Game y = standing.getValue().get();
                y.begin();
                due("3 begin() in: " + standing.getKey(), y.everything(), Standings.made(0).everything());
            }
        }
        due("3 begin()", Standings.made(0).looks() + " " + Standings.made(0).count(), "0 15 -1 0 20");
        Game cleared = Standings.made(4);
        cleared.clear();
        due("2 clear() twice", cleared.clear() + " " + cleared.playable() + " " + cleared.unmake(), "done false -1");
        Game begun = Standings.made(4);
        begun.begin();
        due("3 begin() twice", begun.begin() + " " + begun.playable() + " " + begun.unmake(), "done true -1");
        Game one = Standings.made(3);
        Game other = Standings.made(1);
        other.clear();
        due("1 objects do not share anything", one.everything(), Standings.made(3).everything());
    }

    public static void main(String[] args) {
        put();
        putAlone();
        state();
        notPlayed();
        played();
        move();
        emptyList();
        notLegal();
        leavesKing();
        on();
        lines();
        full();
        atAndLook();
        questions();
        atFirst();
        CHECK.end();
    }
}
