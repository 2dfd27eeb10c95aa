import java.util.Arrays;

/** Each promise by itself: ordinary inputs, the edges that the document names, and wrong inputs. */
public final class PromisesTest {
    private static final String KIWIPETE = "r3k2r/p1ppqpb1/bn2pnp1/3PN3/1p2P3/2N2Q1p/PPPBBPPP/R3K2R w KQkq -";
    private static final int[] ODD = {Integer.MIN_VALUE, -64, -2, 64, 128, Integer.MAX_VALUE};

    private static final Check CHECK = new Check();

    private static void due(String what, Object got, Object want) {
        CHECK.due(what, got, want);
    }

    private static String kind(String fen, String move) {
        return Setup.of(fen).kind(move);
    }

    private static void newObject() {
        Game x = new Game();
        for (int s = 0; s < 64; s++) {
            due("1 at(" + s + ")", x.at(s), 0);
        }
        due("1 look(0)", x.look(0), 0);
        due("1 look(1)", x.look(1), 0);
        due("1 look(2)", x.look(2), MoveList.NONE);
        due("1 look(3)", x.look(3), 0);
        due("1 playable()", x.playable(), false);
        Game y = new Game();
        y.begin();
        due("1 another object changes nothing", x.seen(), new Game().seen());
    }

    private static void clearing() {
        Game x = Setup.of("4k3/8/8/8/3p4/8/4P3/R3K3 w Q -");
        x.make(Setup.move("e2e4"));
        due("2 before", x.look(0) + " " + x.look(1) + " " + x.look(2) + " " + x.look(3), "1 2 20 1");
        x.clear();
        due("2 clear()", x.seen(), new Game().seen());
        due("2 unmake()", x.unmake(), MoveList.NONE);
        due("2 count()", x.count(), Game.STATE);
        x.put(4, 6);
        x.put(60, 12);
        due("2 no king is left over", x.playable(), true);
    }

    private static void beginning() {
        Game x = Setup.of("qqqqkqqq/8/PpNn4/3K4/4k3/7r/8/K7 b - e3");
        x.begin();
        int[] row = {4, 2, 3, 5, 6, 3, 2, 4};
        for (int s = 0; s < 64; s++) {
            int want = s < 8 ? row[s] : s < 16 ? 1 : s < 48 ? 0 : s < 56 ? 7 : row[s - 56] + 6;
            due("3 at(" + s + ")", x.at(s), want);
        }
        due("3 playable()", x.playable(), true);
        due("3 state", x.look(0) + " " + x.look(1) + " " + x.look(2) + " " + x.look(3), "0 15 -1 0");
        x.make(Setup.move("g1f3"));
        x.begin();
        due("3 unmake()", x.unmake(), MoveList.NONE);
        due("3 look(0)", x.look(0), 0);
        due("3 at(g1)", x.at(6), 2);
    }

    private static void putting() {
        Game x = new Game();
        for (int piece = 0; piece <= 12; piece++) {
            due("4 put", x.put(63, piece), "done");
            due("4 at(63)", x.at(63), piece);
            due("4 put", x.put(0, piece), "done");
            due("4 at(0)", x.at(0), piece);
        }
        x.begin();
        x.make(Setup.move("e2e4"));
        String before = x.seen();
        for (int odd : ODD) {
            due("4 put(" + odd + ", 1)", x.put(odd, 1), Game.INDEX);
            due("4 put(" + odd + ", 13)", x.put(odd, 13), Game.INDEX);
            due("4 put(0, " + odd + ")", x.put(0, odd), Game.ARGUMENT);
        }
        due("4 put(-1, 0)", x.put(-1, 0), Game.INDEX);
        due("4 put(-1, -1)", x.put(-1, -1), Game.INDEX);
        due("4 put(0, -1)", x.put(0, -1), Game.ARGUMENT);
        due("4 put(0, 13)", x.put(0, 13), Game.ARGUMENT);
        due("4 what throws changes nothing", x.seen(), before);
        due("4 put(0, 4)", x.put(0, 4), "done");
        due("4 the moves are forgotten", x.look(3), 0);
        due("4 unmake()", x.unmake(), MoveList.NONE);
        due("4 the move stays made", x.at(28) + " " + x.look(0) + " " + x.look(1), "1 1 15");
    }

    private static void stating() {
        Game x = new Game();
        for (int rights = 0; rights <= 15; rights++) {
            due("5 state", x.state(rights % 2, rights, 63 - rights), "done");
            due("5 look", x.look(0) + " " + x.look(1) + " " + x.look(2), rights % 2 + " " + rights + " " + (63 - rights));
        }
        due("5 state(0, 0, 0)", x.state(0, 0, 0), "done");
        due("5 look(2)", x.look(2), 0);
        due("5 state(0, 0, NONE)", x.state(0, 0, MoveList.NONE), "done");
        due("5 look(2)", x.look(2), MoveList.NONE);
        x.begin();
        x.make(Setup.move("e2e4"));
        String before = x.seen();
        for (int odd : ODD) {
            due("5 state(" + odd + ", 0, 0)", x.state(odd, 0, 0), Game.ARGUMENT);
            due("5 state(0, " + odd + ", 0)", x.state(0, odd, 0), Game.ARGUMENT);
            due("5 state(0, 0, " + odd + ")", x.state(0, 0, odd), Game.ARGUMENT);
        }
        due("5 state(-1, 0, 0)", x.state(-1, 0, 0), Game.ARGUMENT);
        due("5 state(2, 0, 0)", x.state(2, 0, 0), Game.ARGUMENT);
        due("5 state(0, -1, 0)", x.state(0, -1, 0), Game.ARGUMENT);
        due("5 state(0, 16, 0)", x.state(0, 16, 0), Game.ARGUMENT);
        due("5 what throws changes nothing", x.seen(), before);
        due("5 state(1, 15, -1)", x.state(1, 15, -1), "done");
        due("5 the moves are forgotten", x.look(3) + " " + x.unmake(), "0 -1");
    }

    private static void playing() {
        due("6 no king", Setup.of("8/8/8/8/8/8/8/8 w - -").playable(), false);
        due("6 white's alone", Setup.of("8/8/8/8/8/8/8/4K3 w - -").playable(), false);
        due("6 black's alone", Setup.of("4k3/8/8/8/8/8/8/8 w - -").playable(), false);
        due("6 both", Setup.of("4k3/8/8/8/8/8/8/4K3 w - -").playable(), true);
        due("6 two white", Setup.of("4k3/8/8/8/8/8/8/K3K3 w - -").playable(), false);
        due("6 two black", Setup.of("k3k3/8/8/8/8/8/8/4K3 w - -").playable(), false);
        due("6 kings beside", Setup.of("8/8/8/3kK3/8/8/8/8 w - -").playable(), false);
        String[] men = {"4k3/8/8/8/8/8/8/4RK2", "4k3/8/8/8/8/8/Q7/4K3", "4k3/8/8/7B/8/8/8/4K3",
            "4k3/8/5N2/8/8/8/8/4K3", "4k3/3P4/8/8/8/8/8/4K3"};
        boolean[] attack = {true, false, true, true, true};
        for (int i = 0; i < men.length; i++) {
            due("6 " + men[i] + " w", Setup.of(men[i] + " w - -").playable(), !attack[i]);
            due("6 " + men[i] + " b", Setup.of(men[i] + " b - -").playable(), true);
        }
        due("6 a pawn goes no way back", Setup.of("8/4P3/3k4/8/8/8/8/4K3 w - -").playable(), true);
        due("6 a black pawn", Setup.of("4k3/8/8/8/8/8/3p4/4K3 b - -").playable(), false);
        due("6 behind a piece", Setup.of("4k3/4p3/8/8/8/8/8/4RK2 w - -").playable(), true);
        Game x = Setup.of("4k3/8/8/8/8/8/8/K3K3 w - -");
        x.put(0, 0);
        due("6 the second king is gone", x.playable(), true);
        x.put(60, 6);
        due("6 black's king became white's", x.playable(), false);
    }

    private static void needsPlayed() {
        Game x = new Game();
        String before = x.seen();
        due("7 count()", x.count(), Game.STATE);
        due("8 move(0)", x.move(0), Game.STATE);
        due("8 move(-1)", x.move(-1), Game.STATE);
        due("9 place(5)", x.place(5), Game.STATE);
        due("10 on(64, true)", x.on(64, true), Game.STATE);
        due("10 on(4, false)", x.on(4, false), Game.STATE);
        due("11 kind(-1)", x.kind(-1), Game.STATE);
        due("12 lines(0)", x.lines(0), Game.STATE);
        due("12 lines(4)", x.lines(4), Game.STATE);
        due("13 make(-1)", x.make(-1), Game.STATE);
        due("14 unmake()", x.unmake(), MoveList.NONE);
        due("16 check()", x.check(), Game.STATE);
        due("17 pinned()", x.pinned(), Game.STATE);
        due("what throws changes nothing", x.seen(), before);
    }

    private static void counting() {
        due("7 begin", Setup.of("rnbqkbnr/pppppppp/8/8/8/8/PPPPPPPP/RNBQKBNR w KQkq -").count(), 20);
        due("7 kiwipete", Setup.of(KIWIPETE).count(), 48);
        due("7 mate", Setup.of("R5k1/5ppp/8/8/8/8/8/K7 b - -").count(), 0);
        due("7 stalemate", Setup.of("7k/5Q2/8/8/8/8/8/K7 b - -").count(), 0);
        due("7 two checks", Setup.of("4k3/8/5N2/8/8/q7/8/4R2K b - -").count(), 3);
        due("7 218", Setup.of("R6R/3Q4/1Q4Q1/4Q3/2Q4Q/Q4Q2/pp1Q4/kBNN1KB1 w - -").count(), 218);
        Game crowd = Setup.of("PPPPPPPP/8/8/8/8/7k/8/pppp1K1p b - -");
        due("7 pawns on their last rank have no moves", crowd.count(), crowd.on(23, true));
        Game low = Setup.of("k7/8/8/8/8/8/8/4P2K w - -");
        due("7 a pawn on the first rank goes one rank", low.on(4, true), 1);
        due("7 and no two", low.legal("e1e3"), false);
    }

    private static void manyQueens() {
        Game y = Setup.of("QQQQQQQQ/Q6Q/Q6Q/Q6Q/Q6Q/Q6Q/pp5Q/kpQQQQQK w - -");
        int n = Integer.parseInt(y.count());
        int last = -1;
        for (int i = 0; i < n; i++) {
            int next = order(Integer.parseInt(y.move(i)));
            due("8 in order at " + i, last < next, true);
            last = next;
        }
        due("10 many queens", y.on(63, true), 6);
        due("12 many queens", y.lines(1), n);
    }

    private static int order(int move) {
        return move % 64 * 64 * 8 + move / 64 % 64 * 8 + move / 4096;
    }

    private static void moving() {
        Game x = Setup.of("7k/1P6/8/8/3Q4/8/8/K7 b - -");
        x.state(1, 0, -1);
        due("8 in check", x.check() + " " + x.count(), "true 2");
        due("8 move(0)", x.move(0), Setup.move("h8h7"));
        due("8 move(1)", x.move(1), Setup.move("h8g8"));
        Game y = Setup.of("n1n4k/1P6/8/8/8/8/8/K6R w - -");
        y.put(7, 0);
        String[] want = {"a1b1", "a1a2", "a1b2", "b7a8n", "b7a8b", "b7a8r", "b7a8q", "b7b8n", "b7b8b", "b7b8r",
            "b7b8q", "b7c8n", "b7c8b", "b7c8r", "b7c8q"};
        due("8 count()", y.count(), want.length);
        for (int i = 0; i < want.length; i++) {
            due("8 move(" + i + ")", y.move(i), Setup.move(want[i]));
            due("9 place(" + want[i] + ")", y.place(want[i]), i);
        }
        due("8 move(-1)", y.move(-1), Game.INDEX);
        due("8 move(15)", y.move(15), Game.INDEX);
        for (int odd : ODD) {
            due("8 move(" + odd + ")", y.move(odd), Game.INDEX);
        }
        due("8 no moves", Setup.of("7k/5Q2/8/8/8/8/8/K7 b - -").move(0), Game.INDEX);
        Game b = Setup.of("7K/8/8/8/8/8/3p4/k1N1N3 b - -");
        String[] black = {"a1b1", "a1b2", "d2c1n", "d2c1b", "d2c1r", "d2c1q", "d2d1n", "d2d1b", "d2d1r",
            "d2d1q", "d2e1n", "d2e1b", "d2e1r", "d2e1q"};
        for (int i = 0; i < black.length; i++) {
            due("8 move(" + i + ")", b.move(i), Setup.move(black[i]));
        }
        due("8 count()", b.count(), black.length);
    }

    private static void placing() {
        Game x = new Game();
        x.begin();
        due("9 e2e4", x.place("e2e4"), 13);
        due("9 e2e5", x.place("e2e5"), -1);
        due("9 the other side's", x.place("e7e5"), -1);
        due("9 with a kind", x.place("e2e4q"), -1);
        for (int odd : ODD) {
            due("9 place(" + odd + ")", x.place(odd), -1);
        }
        due("9 a negative one", x.place(Setup.move("e2e4") - 8 * 4096), -1);
        due("9 one too large", x.place(Setup.move("e2e4") + 8 * 4096), -1);
        Game y = Setup.of("7k/1P6/8/8/8/8/8/K7 w - -");
        due("9 becomes nothing", y.legal("b7b8"), false);
        due("9 becomes a pawn", y.place(Setup.move("b7b8") + 4096), -1);
        due("9 becomes a king", y.place(Setup.move("b7b8") + 6 * 4096), -1);
        due("9 becomes a knight", y.place(Setup.move("b7b8n")), 3);
    }

    private static void pawnMoves() {
        Game x = Setup.of("4k3/8/8/8/8/p3p3/PP2P3/4K3 w - -");
        due("9 blocked", x.legal("a2a3") || x.legal("a2a4") || x.legal("e2e3") || x.legal("e2e4"), false);
        due("9 b2", x.on(9, true), 3);
        due("9 b2a3", x.legal("b2a3"), true);
        due("9 over one to none", Setup.of("4k3/8/8/8/p7/8/P7/4K3 w - -").legal("a2a4"), false);
        due("9 no take round the edge", Setup.of("4k3/8/8/8/7p/p7/7P/K7 w - -").on(15, true), 1);
        due("9 black's two ranks", Setup.of("4k3/p7/8/8/8/8/8/4K3 b - -").legal("a7a5"), true);
        due("9 not from the third", Setup.of("4k3/8/p7/8/8/8/8/4K3 b - -").legal("a6a4"), false);
        due("9 white's not from the seventh", Setup.of("k7/4P3/8/8/8/8/8/4K3 w - -").on(52, true), 4);
    }

    private static void passing() {
        String real = "4k3/8/8/3pP3/8/8/8/4K3 w - ";
        due("9 in passing", Setup.of(real + "d6").legal("e5d6"), true);
        due("9 no PASSING", Setup.of(real + "-").legal("e5d6"), false);
        due("9 another one", Setup.of(real + "f6").legal("e5f6"), false);
        due("9 no pawn behind it", Setup.of("4k3/8/8/3nP3/8/8/8/4K3 w - d6").legal("e5d6"), false);
        due("9 an own pawn behind it", Setup.of("4k3/8/8/3PP3/8/8/8/4K3 w - d6").legal("e5d6"), false);
        due("9 pawn before it", Setup.of("4k3/3p4/8/4P3/8/8/8/4K3 w - d6").legal("e5d6"), false);
        due("9 a piece on it is taken as ever", kind("4k3/8/3n4/3pP3/8/8/8/4K3 w - d6", "e5d6"), 1);
        due("9 only pawns take so", kind("4k3/8/8/3pB3/8/8/8/4K3 w - d6", "e5d6"), 0);
        due("9 and only aslant", kind("4k3/8/8/4P3/4p3/8/8/4K3 w - e6", "e5e6"), 0);
        due("9 both kings' line opens", Setup.of("8/8/8/K2pP2r/8/8/8/4k3 w - d6").legal("e5d6"), false);
        due("9 takes the pawn that gives check", Setup.of("8/8/8/3pP3/2K5/8/8/4k3 w - d6").legal("e5d6"), true);
        due("9 black's", Setup.of("4k3/8/8/8/3Pp3/8/8/4K3 b - d3").legal("e4d3"), true);
        due("9 black's kind", kind("4k3/8/8/8/3Pp3/8/8/4K3 b - d3", "e4d3"), 3);
        due("9 on another rank", kind("4k3/8/8/8/8/8/3pP3/6K1 w - d3", "e2d3"), 3);
        Game last = Setup.of("8/3pP3/8/8/8/8/8/K6k w - d8");
        due("9 on the last rank", last.on(52, true), 8);
        due("11 on the last rank", last.kind("e7d8r"), 11);
        due("13 on the last rank", last.make("e7d8r"), 3);
        due("13 on the last rank", last.at(59) + " " + last.at(51) + " " + last.at(52), "4 0 0");
        due("14 on the last rank", last.unmake(), Setup.move("e7d8r"));
        due("14 on the last rank", last.at(59) + " " + last.at(51) + " " + last.at(52), "0 7 1");
        due("9 at the edge of the board", Setup.of("k7/8/8/8/8/8/8/7K w - a1").count(), 3);
        due("9 at the edge of the board", Setup.of("k7/8/8/8/8/8/8/7K b - h8").count(), 3);
    }

    private static void castling() {
        String open = "r3k2r/8/8/8/8/8/8/R3K2R ";
        String[] moves = {"e1g1", "e1c1", "e8g8", "e8c8"};
        for (int rights = 0; rights < 16; rights++) {
            for (int i = 0; i < 4; i++) {
                Game x = Setup.of(open + (i < 2 ? "w" : "b") + " - -");
                x.state(i / 2, rights, -1);
                due("9 rights " + rights + " " + moves[i], x.legal(moves[i]), (rights >> i & 1) == 1);
            }
        }
        String[] none = {"4k3/8/8/8/8/8/8/4K3 w KQ -", "4k3/8/8/8/8/8/8/r3K2r w KQ -", "4k3/8/8/8/8/8/8/B3K2B w KQ -",
            "4k3/8/8/8/8/8/8/RN2K1NR w KQ -", "4k3/8/8/8/8/8/8/R2QKB1R w KQ -", "4k3/8/8/8/4r3/8/8/R3K2R w KQ -",
            "3rkr2/8/8/8/8/8/8/R3K2R w KQ -", "2r1k1r1/8/8/8/8/8/8/R3K2R w KQ -", "4k3/8/8/8/8/8/4p3/R3K2R w KQ -",
            "4k3/8/8/8/8/4n3/8/R3K2R w KQ -", "4k3/8/8/8/8/8/8/R2K3R w KQ -", "8/8/8/8/8/8/2k3p1/R3K2R w KQ -",
            "4K3/8/8/8/8/8/8/R3k2R b KQ -", "4k3/8/8/8/8/8/8/R4K1R w KQ -"};
        for (String fen : none) {
            Game x = Setup.of(fen);
            due("9 " + fen, x.legal("e1g1") || x.legal("e1c1"), false);
        }
        due("9 b1 may be attacked", Setup.of("1r2k3/8/8/8/8/8/8/R3K3 w Q -").legal("e1c1"), true);
        due("9 b1 must be empty", Setup.of("4k3/8/8/8/8/8/8/Rn2K3 w Q -").legal("e1c1"), false);
        due("9 a rook may be attacked", Setup.of("4k2r/8/8/8/8/8/8/4K2R w K -").legal("e1g1"), true);
        due("11 castles", kind("4k3/8/8/8/8/8/8/R3K3 w Q -", "e1c1"), 4);
        due("11 castles with check", kind("5k2/8/8/8/8/8/8/4K2R w K -", "e1g1"), 20);
        Game x = Setup.of(open + "w KQkq -");
        due("13 castling", x.make("e1g1"), 23);
        due("13 castling", x.at(4) + " " + x.at(5) + " " + x.at(6) + " " + x.at(7) + " " + x.look(1), "0 4 6 0 12");
        due("14 castling", x.unmake(), Setup.move("e1g1"));
        due("14 castling", x.seen(), Setup.of(open + "w KQkq -").seen());
        Game y = Setup.of(open + "b KQkq -");
        due("13 castling", y.make("e8c8"), 23);
        due("13 castling", y.at(56) + " " + y.at(57) + " " + y.at(58) + " " + y.at(59) + " " + y.at(60) + " " + y.look(1),
                "0 0 12 10 0 3");
        due("14 castling", y.unmake(), Setup.move("e8c8"));
        due("14 castling", y.seen(), Setup.of(open + "b KQkq -").seen());
    }

    private static void onSquares() {
        Game x = Setup.of("n1n4k/1P6/8/8/8/8/8/K7 w - -");
        due("10 from b7", x.on(49, true), 12);
        due("10 to b8", x.on(57, false), 4);
        due("10 to b7", x.on(49, false), 0);
        due("10 from b8", x.on(57, true), 0);
        due("10 from a1", x.on(0, true), 3);
        due("10 the other side's", x.on(63, true), 0);
        for (int odd : ODD) {
            due("10 on(" + odd + ", true)", x.on(odd, true), 0);
            due("10 on(" + odd + ", false)", x.on(odd, false), 0);
        }
        due("10 on(-1, true)", x.on(-1, true), 0);
        due("10 on(-1, false)", x.on(-1, false), 0);
        Game k = Setup.of(KIWIPETE);
        int from = 0;
        int to = 0;
        for (int s = 0; s < 64; s++) {
            from += Integer.parseInt(k.on(s, true));
            to += Integer.parseInt(k.on(s, false));
        }
        due("10 all", from + " " + to, "48 48");
    }

    private static void kinds() {
        due("11 nothing", kind(KIWIPETE, "a2a3"), 0);
        due("11 takes", kind(KIWIPETE, "e5d7"), 1);
        due("11 promotes", kind("8/4P3/8/8/8/8/8/K6k w - -", "e7e8n"), 8);
        due("11 promotes with check", kind("8/4P3/8/8/8/8/8/K3k3 w - -", "e7e8q"), 24);
        due("11 and takes", kind("3r4/4P3/8/8/8/8/8/K2k4 w - -", "e7d8r"), 25);
        due("11 gives check", kind("4k3/8/8/8/8/8/8/K2R4 w - -", "d1e1"), 16);
        due("11 a check behind it", kind("4k3/8/8/8/4N3/8/8/K3R3 w - -", "e4c3"), 16);
        due("11 mate", kind("6k1/5ppp/8/8/8/8/8/K3R3 w - -", "e1e8"), 48);
        due("11 stalemate", kind("7k/8/8/5Q2/8/8/8/K7 w - -", "f5f7"), 32);
        due("11 mate by taking", kind("4r1k1/5ppp/8/8/8/8/8/K3R3 w - -", "e1e8"), 49);
        due("11 in passing with check", kind("8/2k5/8/3pP3/8/8/8/4K3 w - d6", "e5d6"), 19);
        Game x = Setup.of(KIWIPETE);
        String before = x.seen();
        x.kind("e1g1");
        x.kind("d5e6");
        due("11 changes nothing", x.seen(), before);
        due("11 not legal", x.kind("a2a5"), Game.ARGUMENT);
        due("11 of the other side", x.kind("a7a6"), Game.ARGUMENT);
        for (int odd : new int[] {-1, 0, 63, 64 * 64 * 8, Integer.MIN_VALUE, Integer.MAX_VALUE}) {
            due("11 kind(" + odd + ")", x.kind(odd), Game.ARGUMENT);
        }
    }

    /** The numbers are those that programs of others agree on. */
    private static void lineCounts() {
        String[] fens = {"rnbqkbnr/pppppppp/8/8/8/8/PPPPPPPP/RNBQKBNR w KQkq -", KIWIPETE, "8/2p5/3p4/KP5r/1R3p1k/8/4P1P1/8 w - -",
            "r3k2r/Pppp1ppp/1b3nbN/nP6/BBP1P3/q4N2/Pp1P2PP/R2Q1RK1 w kq -",
            "r2q1rk1/pP1p2pp/Q4n2/bbp1p3/Np6/1B3NBn/pPPP1PPP/R3K2R b KQ -",
            "rnbq1k1r/pp1Pbppp/2p5/8/2B5/8/PPP1NnPP/RNBQK2R w KQ -",
            "r4rk1/1pp1qppp/p1np1n2/2b1p1B1/2B1P1b1/P1NP1N2/1PP1QPPP/R4RK1 w - -"};
        long[][] want = {{1, 20, 400, 8902}, {1, 48, 2039, 97862}, {1, 14, 191, 2812}, {1, 6, 264, 9467}, {1, 6, 264, 9467},
            {1, 44, 1486, 62379}, {1, 46, 2079, 89890}};
        for (int i = 0; i < fens.length; i++) {
            Game x = Setup.of(fens[i]);
            String before = x.seen();
            for (int depth = 0; depth <= 3; depth++) {
                due("12 " + fens[i] + " " + depth, x.lines(depth), want[i][depth]);
            }
            due("12 changes nothing", x.seen(), before);
        }
        Game mate = Setup.of("R5k1/5ppp/8/8/8/8/8/K7 b - -");
        due("12 mate", mate.lines(0) + " " + mate.lines(1) + " " + mate.lines(3), "1 0 0");
        due("12 lines(-1)", mate.lines(-1), Game.ARGUMENT);
        due("12 lines(4)", mate.lines(4), Game.ARGUMENT);
        for (int odd : ODD) {
            due("12 lines(" + odd + ")", mate.lines(odd), Game.ARGUMENT);
        }
        Game deep = Setup.of(KIWIPETE);
        long sum = 0;
        for (int i = 0; i < 48; i++) {
            deep.make(Integer.parseInt(deep.move(i)));
            sum += Long.parseLong(deep.lines(3));
            deep.unmake();
        }
        due("12 kiwipete 4", sum, 4085603);
    }

    private static Game begun(String[] moves, int made) {
        Game x = new Game();
        x.begin();
        return x.played(Arrays.copyOf(moves, made));
    }

    private static void makingAndTakingBack() {
        String[] moves = {"e2e4", "g8f6", "e4e5", "d7d5", "e5d6", "b8c6", "d6c7", "d8d2", "c1d2", "c8g4", "c7c8q", "a8c8"};
        String[] states = {"1 15 -1 1", "0 15 -1 2", "1 15 -1 3", "0 15 43 4", "1 15 -1 5", "0 15 -1 6", "1 15 -1 7",
            "0 15 -1 8", "1 15 -1 9", "0 15 -1 10", "1 15 -1 11", "0 7 -1 12"};
        for (int i = 0; i < moves.length; i++) {
            Game x = begun(moves, i);
            String before = x.seen();
            String answer = x.make(moves[i]);
            due("13 make(" + moves[i] + ")", answer, x.count());
            due("13 state after " + moves[i], x.looks(), states[i]);
            due("14 unmake()", x.unmake(), Setup.move(moves[i]));
            due("14 position before " + moves[i], x.seen(), before);
        }
        Game x = begun(moves, moves.length);
        String before = x.seen();
        due("13 not legal", x.make("a1a8"), Game.ARGUMENT);
        due("13 make(-1)", x.make(-1), Game.ARGUMENT);
        due("13 what throws changes nothing", x.seen(), before);
        for (int i = moves.length - 1; i >= 0; i--) {
            due("14 unmake()", x.unmake(), Setup.move(moves[i]));
        }
        due("14 unmake()", x.unmake(), MoveList.NONE);
        due("14 as at first", x.seen(), begun(moves, 0).seen());
        due("14 count()", x.count(), 20);
    }

    private static void rightsAndPassing() {
        String[][] rows = {
            {"r3k2r/8/8/8/8/8/8/R3K2R w KQkq -", "e1e2", "12"}, {"r3k2r/8/8/8/8/8/8/R3K2R b KQkq -", "e8e7", "3"},
            {"r3k2r/8/8/8/8/8/8/R3K2R w KQkq -", "h1g1", "14"}, {"r3k2r/8/8/8/8/8/8/R3K2R w KQkq -", "a1b1", "13"},
            {"r3k2r/8/8/8/8/8/8/R3K2R b KQkq -", "h8g8", "11"}, {"r3k2r/8/8/8/8/8/8/R3K2R b KQkq -", "a8b8", "7"},
            {"r3k2r/8/8/8/8/8/8/R3K2R w KQkq -", "a1a8", "5"}, {"r3k2r/8/8/8/8/8/8/R3K2R w KQkq -", "h1h8", "10"},
            {"4k3/8/8/8/8/8/8/3K4 w KQkq -", "d1d2", "12"}, {"4k3/8/8/8/8/8/8/N2K4 w KQkq -", "a1b3", "13"},
            {"r3k3/1P6/8/8/8/8/8/4K3 w KQkq -", "b7a8q", "7"}, {"4k3/8/8/8/8/8/6p1/4K2R b KQkq -", "g2h1n", "14"},
            {"4k3/8/8/8/8/8/8/R3K3 w Q -", "a1a2", "0"}, {"4k3/8/8/8/8/8/8/1R2K3 w KQkq -", "b1b2", "15"}};
        for (String[] row : rows) {
            Game x = Setup.of(row[0]);
            String before = x.look(1);
            x.make(row[1]);
            due("13 rights after " + row[1] + " of " + row[0], x.look(1), row[2]);
            x.unmake();
            due("14 rights before " + row[1], x.look(1), before);
        }
        String[][] passed = {
            {"4k3/8/8/8/3p4/8/4P3/4K3 w - -", "e2e4", "20"}, {"4k3/8/8/8/5p2/8/4P3/4K3 w - -", "e2e4", "20"},
            {"4k3/8/8/8/8/8/4P3/4K3 w - -", "e2e4", "-1"}, {"4k3/8/8/8/3p4/8/4P3/4K3 w - -", "e2e3", "-1"},
            {"4k3/8/8/8/3P4/8/4P3/4K3 w - -", "e2e4", "-1"}, {"4k3/8/8/8/3n4/8/4P3/4K3 w - -", "e2e4", "-1"},
            {"4k3/8/8/p7/8/8/7P/4K3 w - -", "h2h4", "-1"}, {"4k3/8/8/8/7p/8/P7/4K3 w - -", "a2a4", "-1"},
            {"3k4/8/8/8/3p4/8/4P3/3RK3 w - -", "e2e4", "20"}, {"4k3/4p3/8/3P4/8/8/8/4K3 b - -", "e7e5", "44"},
            {"4k3/4p3/8/8/8/8/8/4K3 b - -", "e7e5", "-1"}, {"4k3/8/8/3pP3/8/8/8/4K3 w - d6", "e1e2", "-1"},
            {"4k3/8/8/3pP3/8/8/8/4K3 w - d6", "e5d6", "-1"}, {"4k3/8/8/3p4/8/4P3/8/R3K3 w - d6", "a1a3", "-1"}};
        for (String[] row : passed) {
            Game x = Setup.of(row[0]);
            String before = x.look(2);
            x.make(row[1]);
            due("13 passing after " + row[1] + " of " + row[0], x.look(2), row[2]);
            x.unmake();
            due("14 passing before " + row[1], x.look(2), before);
        }
    }

    private static void twoHundred() {
        Game x = new Game();
        x.begin();
        String[] round = {"b1c3", "b8c6", "c3b1", "c6b8"};
        int[] want = {20, 22, 22, 20};
        for (int i = 0; i < 200; i++) {
            due("13 move " + i, x.make(round[i % 4]), want[i % 4]);
        }
        due("18 look(3)", x.look(3), 200);
        due("13 the next", x.make("b1c3"), Game.UNSUPPORTED);
        due("13 not legal comes first", x.make("b1b3"), Game.ARGUMENT);
        due("11 with all made", x.kind("b1c3"), 0);
        due("12 with all made", x.lines(3), 8902);
        due("14 unmake()", x.unmake(), Setup.move("c6b8"));
        due("13 room for one", x.make("c6b8"), 20);
        due("13 and no more", x.make("b1c3"), Game.UNSUPPORTED);
        for (int i = 199; i >= 0; i--) {
            due("14 move " + i, x.unmake(), Setup.move(round[i % 4]));
        }
        due("14 unmake()", x.unmake(), MoveList.NONE);
        due("18 look(3)", x.look(3), 0);
    }

    private static void squares() {
        Game x = new Game();
        x.begin();
        due("15 at(0)", x.at(0), 4);
        due("15 at(63)", x.at(63), 10);
        due("15 at(59)", x.at(59), 11);
        due("15 at(32)", x.at(32), 0);
        due("15 at(-1)", x.at(-1), MoveList.NONE);
        for (int odd : ODD) {
            due("15 at(" + odd + ")", x.at(odd), MoveList.NONE);
        }
    }

    private static void checks() {
        String[] yes = {"4k3/8/8/8/8/8/8/4RK2 b - -", "4k3/8/8/8/B7/8/8/4K3 b - -", "4k3/8/8/7Q/8/8/8/4K3 b - -",
            "4k3/8/3N4/8/8/8/8/4K3 b - -", "4k3/5P2/8/8/8/8/8/4K3 b - -", "4k3/8/8/8/8/8/3p4/4K3 w - -",
            "4k3/8/8/8/8/8/5p2/4K3 w - -"};
        String[] no = {"4k3/4p3/8/8/8/8/8/4RK2 b - -", "4k3/8/8/8/b7/8/8/K7 w - -", "4k3/4P3/8/8/8/8/8/4K3 b - -",
            "8/8/8/4k3/8/8/8/4K3 w - -", "8/3P4/4k3/8/8/8/8/4K3 b - -", "3rk3/8/8/8/8/8/8/4K3 w - -"};
        for (String fen : yes) {
            due("16 " + fen, Setup.of(fen).check(), true);
        }
        for (String fen : no) {
            due("16 " + fen, Setup.of(fen).check(), false);
        }
        due("16 round the edge", Setup.of("4k3/8/8/7r/K7/8/8/8 w - -").check(), false);
        due("16 a knight round the edge", Setup.of("4k3/8/8/7n/K7/8/8/8 w - -").check(), false);
    }

    private static void pins() {
        Game x = Setup.of("4r2k/b6b/8/2N1P3/3BK1Pr/3PQP2/8/1q2r2q w - -");
        long want = 0;
        for (String name : new String[] {"d3", "e5", "f3", "g4", "e3"}) {
            want |= 1L << Setup.square(name);
        }
        due("17 all around", x.pinned(), want);
        due("17 two between", Setup.of("4r2k/8/4P3/4P3/8/8/8/4K3 w - -").pinned(), 0);
        due("17 one of each side", Setup.of("4r2k/8/4p3/4P3/8/8/8/4K3 w - -").pinned(), 0);
        due("17 a piece of the other side", Setup.of("4r2k/8/4p3/8/8/8/8/4K3 w - -").pinned(), 0);
        due("17 a rook aslant", Setup.of("7k/8/8/7r/6P1/8/8/3K4 w - -").pinned(), 0);
        due("17 a bishop along", Setup.of("4b2k/8/8/4P3/8/8/8/4K3 w - -").pinned(), 0);
        due("17 a pawn pins nothing", Setup.of("7k/8/8/8/8/6p1/5P2/4K3 w - -").pinned(), 0);
        due("17 a king pins nothing", Setup.of("8/8/8/8/4k3/8/4P3/4K3 w - -").pinned(), 0);
        due("17 own slider", Setup.of("4R3/7k/8/4P3/8/8/8/4K3 w - -").pinned(), 0);
        due("17 bit 62", Setup.of("4r1NK/8/8/8/8/8/8/k7 w - -").pinned(), 1L << 62);
        due("17 none behind it", Setup.of("6KN/8/8/8/8/8/8/k7 w - -").pinned(), 0);
        due("17 nor in the corner", Setup.of("8/8/8/8/8/8/8/NK5k w - -").pinned(), 0);
        due("17 black's", Setup.of("4k3/4n3/8/8/8/8/8/4RK2 b - -").pinned(), 1L << 52);
        due("17 white's when black is to move", Setup.of("4r2k/8/8/4P3/8/8/8/4K3 b - -").pinned(), 0);
        due("17 it goes along", Setup.of("4r2k/8/8/4R3/8/8/8/4K3 w - -").on(36, true), 6);
        due("17 it can not leave", Setup.of("4r2k/8/8/4N3/8/8/8/4K3 w - -").on(36, true), 0);
    }

    private static void looks() {
        Game x = Setup.of("4k3/8/8/8/3p4/8/4P3/R3K3 w Q e3");
        due("18 look", x.look(0) + " " + x.look(1) + " " + x.look(2) + " " + x.look(3), "0 2 20 0");
        x.make("a1a2");
        due("18 look", x.look(0) + " " + x.look(1) + " " + x.look(2) + " " + x.look(3), "1 0 -1 1");
        due("18 look(-1)", x.look(-1), MoveList.NONE);
        due("18 look(4)", x.look(4), MoveList.NONE);
        for (int odd : ODD) {
            due("18 look(" + odd + ")", x.look(odd), MoveList.NONE);
        }
    }

    public static void main(String[] args) {
        newObject();
        clearing();
        beginning();
        putting();
        stating();
        playing();
        needsPlayed();
        counting();
        manyQueens();
        moving();
        placing();
        pawnMoves();
        passing();
        castling();
        onSquares();
        kinds();
        lineCounts();
        makingAndTakingBack();
        rightsAndPassing();
        twoHundred();
        squares();
        checks();
        pins();
        looks();
        CHECK.end();
    }
}
