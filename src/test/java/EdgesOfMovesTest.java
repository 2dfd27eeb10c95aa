/**
 * The sentences on what a MOVE is, how each piece goes, and which moves are LEGAL, with the LIST's order:
 * for each clause the last case that it allows and the first one that it does not.
 */
public final class EdgesOfMovesTest {
    private static final Check CHECK = new Check();
    private static final int PAWN = 1;
    private static final int KNIGHT = 2;
    private static final int QUEEN = 5;
    private static final int KING = 6;

    private static void due(String what, Object got, Object want) {
        CHECK.due(what, got, want);
    }

    private static int piece(int type, int side) {
        return type + 6 * side;
    }

    private static String told(int piece, int from, int to) {
        return "PNBRQKpnbrqk".charAt(piece - 1) + " " + Geometry.name(from) + " to " + Geometry.name(to);
    }

    private static int lastRank(int side) {
        return side == 0 ? 7 : 0;
    }

    /** A pawn on its way to the last rank has no move of kind 0: it is asked for the one to a queen. */
    private static int pawnMove(int from, int to, int side) {
        return from + 64 * to + (to / 8 == lastRank(side) ? 4096 * QUEEN : 0);
    }

    /** Whether a square is out of the way of all that a piece does from another one. */
    private static boolean apart(int square, int from) {
        return square != from && Geometry.steps(square, from) > 1 && !Geometry.straight(square, from)
                && !Geometry.aslant(square, from) && !Geometry.knight(square, from);
    }

    /** A game with a piece and two kings that are out of its way. */
    private static Game alone(int man, int from) {
        int side = Geometry.sideOf(man);
        int own = Geometry.find(k -> apart(k, from));
        int other = Geometry.find(k -> apart(k, from) && Geometry.steps(k, own) > 2);
        Game x = new Game();
        x.put(from, man);
        x.put(own, piece(KING, side));
        x.put(other, piece(KING, 1 - side));
        x.state(side, 15, -1);
        return x;
    }

    /** "knight, bishop, rook, queen, king as they ATTACK" */
    private static void piecesGo() {
        for (int from = 0; from < 64; from++) {
            for (int type = KNIGHT; type <= QUEEN; type++) {
                int man = piece(type, (from + type) % 2);
                Game x = alone(man, from);
                int sum = 0;
                for (int to = 0; to < 64; to++) {
                    boolean reaches = Geometry.reaches(man, from, to);
                    sum += reaches ? 1 : 0;
                    due("9 " + told(man, from, to), x.legal(from + 64 * to), reaches);
                }
                due("10 from " + Geometry.name(from), x.on(from, true), sum);
            }
            kingGoes(from, from % 2);
        }
    }

    private static void kingGoes(int from, int side) {
        int other = Geometry.find(k -> Geometry.steps(k, from) > 3);
        Game x = new Game();
        x.put(from, piece(KING, side));
        x.put(other, piece(KING, 1 - side));
        x.state(side, 15, -1);
        for (int to = 0; to < 64; to++) {
            due("9 " + told(piece(KING, side), from, to), x.legal(from + 64 * to), Geometry.steps(from, to) == 1);
        }
    }

    /** "as far as the first piece": up to it, onto it if it is the other side's, never behind it. */
    private static void piecesStop() {
        for (int type = 3; type <= QUEEN; type++) {
            for (int from : new int[] {0, 7, 27, 30, 36, 56, 63}) {
                for (int met = 0; met < 64; met++) {
                    if (Geometry.reaches(type, from, met)) {
                        stopsAt(piece(type, met % 2), from, met);
                    }
                }
            }
        }
    }

    private static void stopsAt(int man, int from, int met) {
        int side = Geometry.sideOf(man);
        int own = Geometry.find(k -> apart(k, from) && apart(k, met));
        int other = Geometry.find(k -> apart(k, from) && apart(k, met) && Geometry.steps(k, own) > 2);
        for (int whose = 0; whose < 2; whose++) {
            Game x = new Game();
            x.put(from, man);
            x.put(met, piece(KNIGHT, whose));
            x.put(own, piece(KING, side));
            x.put(other, piece(KING, 1 - side));
            x.state(side, 0, -1);
            for (int to = 0; to < 64; to++) {
                boolean goes = Geometry.reaches(man, from, to) && !Geometry.between(met, from, to)
                        && (to != met || whose != side);
                due("9 " + told(man, from, to) + ", side " + whose + " on " + Geometry.name(met),
                        x.legal(from + 64 * to), goes);
            }
        }
    }

    /** "On from is a piece of the side to move, on to none of it, and no king." */
    private static void fromAndTo() {
        Game x = Setup.of("r3k2r/pppppppp/8/8/8/8/PPPPPPPP/R3K2R w KQkq -");
        due("10 from a piece of the other side", x.from("a7") + " " + x.from("e8") + " " + x.from("h8"), "0 0 0");
        due("10 from an empty square", x.from("e4"), 0);
        due("10 to an own piece", x.to("a2") + " " + x.to("e1") + " " + x.to("h1"), "0 0 0");
        due("9 from a piece of the other side", x.place("a7a6"), -1);
        due("9 from an empty square", x.place("e4e5"), -1);
        due("9 from a square to itself", x.place("e2e2") + " " + x.place("e1e1") + " " + x.place("e4e4"), "-1 -1 -1");
        x.state(1, 15, -1);
        due("10 black to move", x.from("a7") + " " + x.from("a2") + " " + x.to("a7"), "2 0 0");
        for (int type = PAWN; type < KING; type++) {
            Game y = Setup.of("4k3/8/8/8/8/8/8/R3K3 w - -");
            y.put("a5", type);
            due("9 to an own piece of type " + type, y.legal("a1a4") + " " + y.legal("a1a5") + " " + y.legal("a1a6"),
                    "true false false");
            y.put("a5", type + 6);
            boolean inCheck = y.check().equals("true");
            due("9 to the other side's of type " + type, y.legal("a1a4") + " " + y.legal("a1a5") + " " + y.legal("a1a6"),
                    !inCheck + " true false");
        }
        Game z = Setup.of("8/8/8/3k1K2/8/8/8/3RR3 w - -");
        due("6 a king that could be taken", z.playable(), false);
        Game kings = Setup.of("8/8/8/3k1K2/8/8/8/4R3 w - -");
        due("10 to the kings", kings.to("d5") + " " + kings.to("f5"), "0 0");
    }

    /** "MOVE is from + 64 * to + 4096 * kind": other numbers with the same last bits are no moves. */
    private static void numbers() {
        Game x = new Game();
        x.begin();
        int move = Setup.move("e2e4");
        due("9 the number itself", x.place(move), 13);
        for (int bit = 12; bit < 32; bit++) {
            due("9 with bit " + bit, x.place(move ^ 1 << bit), -1);
            due("11 with bit " + bit, x.kind(move ^ 1 << bit), Game.ARGUMENT);
            due("13 with bit " + bit, x.make(move ^ 1 << bit), Game.ARGUMENT);
        }
        due("9 to and from changed", x.place(28 + 64 * 12), -1);
        due("9 below", x.place(-1) + " " + x.place(-move) + " " + x.place(~move) + " " + x.place(Integer.MIN_VALUE), "-1 -1 -1 -1");
        due("9 above", x.place(64 * 4096) + " " + x.place(Integer.MAX_VALUE), "-1 -1");
    }

    /** "kind is 0, or for a pawn that comes to the last rank what it becomes: 2 .. 5" */
    private static void kindsOfMoves() {
        String[][] rows = {
            {"7k/1P6/8/8/8/8/8/K7 w - -", "b7b8", "2345"}, {"n6k/1P6/8/8/8/8/8/K7 w - -", "b7a8", "2345"},
            {"2n4k/1P6/8/8/8/8/8/K7 w - -", "b7c8", "2345"}, {"7K/8/8/8/8/8/1p6/k7 b - -", "b2b1", "2345"},
            {"7K/8/8/8/8/8/1p6/k1N5 b - -", "b2c1", "2345"}, {"7K/8/8/8/8/8/6p1/k6N b - -", "g2h1", "2345"},
            {"7k/8/1P6/8/8/8/8/K7 w - -", "b6b7", "0"}, {"7K/8/8/8/8/1p6/8/k7 b - -", "b3b2", "0"},
            {"7k/8/8/8/8/8/1P6/K7 w - -", "b2b4", "0"}, {"7k/8/1P6/8/8/8/8/K7 b - -", "b6b5", ""},
            {"7k/1R6/8/8/8/8/8/K7 w - -", "b7b8", "0"}, {"7k/1Q6/8/8/8/8/8/K7 w - -", "b7b8", "0"},
            {"7k/B7/8/8/8/8/8/K7 w - -", "a7b8", "0"}, {"7k/8/1N6/8/8/8/8/K7 w - -", "b6c8", "0"},
            {"7k/1K6/8/8/8/8/8/8 w - -", "b7b8", "0"}, {"7K/8/8/8/8/8/1r6/k7 b - -", "b2b1", "0"},
            {"7k/8/8/8/8/8/1R6/K7 w - -", "b2b1", "0"}, {"7k/1p6/8/8/8/8/8/K7 b - -", "b7b6", "0"},
            {"7k/8/8/8/8/8/8/KP6 w - -", "b1b2", "0"}, {"kp6/8/8/8/8/8/8/7K b - -", "b8b7", "0"}};
        for (String[] row : rows) {
            Game x = Setup.of(row[0]);
            for (int kind = -1; kind <= 8; kind++) {
                boolean legal = kind >= 0 && row[2].indexOf('0' + kind) >= 0;
                due("9 " + row[0] + " " + row[1] + " kind " + kind, x.legal(Setup.move(row[1]) + 4096 * kind), legal);
            }
        }
    }

    /** "a pawn one rank on to an empty square, from its second rank (2, 7) two ranks": from each square. */
    private static void pawnsAlone() {
        for (int side = 0; side < 2; side++) {
            for (int from = 0; from < 64; from++) {
                int man = piece(PAWN, side);
                Game x = alone(man, from);
                int on = side == 0 ? 8 : -8;
                int rank = side == 0 ? from / 8 + 1 : 8 - from / 8;
                for (int to = 0; to < 64; to++) {
                    boolean goes = to == from + on || rank == 2 && to == from + 2 * on;
                    due("9 " + told(man, from, to), x.legal(pawnMove(from, to, side)), goes);
                }
                due("10 from " + Geometry.name(from) + " side " + side, x.on(from, true), rank == 8 ? 0 : rank == 7 ? 4 : rank == 2 ? 2 : 1);
            }
        }
    }

    /** "to an empty square", "two ranks over an empty square to an empty one": with each piece in the way. */
    private static void pawnsBlocked() {
        for (int file = 0; file < 8; file++) {
            for (int side = 0; side < 2; side++) {
                for (int man = 1; man <= 12; man++) {
                    if (Geometry.typeOf(man) != KING) {
                        blockedBy(man, side == 0 ? 8 + file : 48 + file, side);
                    }
                }
            }
        }
    }

    private static void blockedBy(int man, int from, int side) {
        int on = side == 0 ? 8 : -8;
        int own = Geometry.find(k -> apartFromWay(k, from, on));
        int other = Geometry.find(k -> apartFromWay(k, from, on) && Geometry.steps(k, own) > 1);
        for (int ranks = 1; ranks <= 3; ranks++) {
            Game x = new Game();
            x.put(from, piece(PAWN, side));
            x.put(own, piece(KING, side));
            x.put(other, piece(KING, 1 - side));
            x.put(from + ranks * on, man);
            x.state(side, 0, -1);
            String what = told(piece(PAWN, side), from, from + on) + ", piece " + man + " " + ranks + " ranks on";
            due("9 one: " + what, x.legal(from + 64 * (from + on)), ranks > 1);
            due("9 two: " + what, x.legal(from + 64 * (from + 2 * on)), ranks > 2);
        }
    }

    private static boolean apartFromWay(int square, int from, int on) {
        return apart(square, from) && apart(square, from + on) && apart(square, from + 2 * on) && apart(square, from + 3 * on);
    }

    /** "as it ATTACKS to a square with a piece of the other side": any square, with a piece of either side. */
    private static void pawnsTake() {
        for (int from = 0; from < 64; from++) {
            for (int to = 0; to < 64; to++) {
                if (to != from) {
                    pawnTakes(from, to, from % 2);
                    pawnTakes(from, to, 1 - from % 2);
                }
            }
        }
    }

    private static void pawnTakes(int from, int to, int side) {
        int own = Geometry.find(k -> apart(k, from) && apart(k, to));
        int other = Geometry.find(k -> apart(k, from) && apart(k, to) && Geometry.steps(k, own) > 1);
        Game x = new Game();
        x.put(from, piece(PAWN, side));
        x.put(own, piece(KING, side));
        x.put(other, piece(KING, 1 - side));
        x.state(side, 0, -1);
        int move = pawnMove(from, to, side);
        String what = told(piece(PAWN, side), from, to);
        if (Geometry.files(from, to) != 0) {
            due("9 to an empty square: " + what, x.place(move), -1);
        }
        x.put(to, piece(KNIGHT, side));
        due("9 to an own piece: " + what, x.place(move), -1);
        x.put(to, piece(KNIGHT, 1 - side));
        due("9 to the other side's: " + what, x.legal(move), Geometry.reaches(piece(PAWN, side), from, to));
    }

    /** "to PASSING, if that is empty and a pawn of the other side stands a rank back from it" */
    private static void inPassing() {
        for (int passing = 0; passing < 64; passing++) {
            for (int side = 0; side < 2; side++) {
                int back = side == 0 ? passing - 8 : passing + 8;
                if (back >= 0 && back < 64) {
                    for (int from = 0; from < 64; from++) {
                        if (from != passing && from != back) {
                            passingFrom(from, passing, back, side);
                        }
                    }
                }
            }
        }
    }

    private static void passingFrom(int from, int passing, int back, int side) {
        boolean attacks = Geometry.reaches(piece(PAWN, side), from, passing);
        int own = Geometry.find(k -> apart(k, from) && apart(k, passing) && apart(k, back));
        int other = Geometry.find(k -> apart(k, from) && apart(k, passing) && apart(k, back) && Geometry.steps(k, own) > 1);
        Game x = new Game();
        x.put(from, piece(PAWN, side));
        x.put(back, piece(PAWN, 1 - side));
        x.put(own, piece(KING, side));
        x.put(other, piece(KING, 1 - side));
        x.state(side, 0, passing);
        int move = pawnMove(from, passing, side);
        String what = told(piece(PAWN, side), from, passing) + " in passing";
        if (Geometry.files(from, passing) != 0) {
            due("9 " + what, x.legal(move), attacks);
        }
        if (attacks) {
            due("11 " + what, Game.parts(x.kind(move), 15), passing / 8 == lastRank(side) ? 11 : 3);
            x.state(side, 0, -1);
            due("9 no PASSING: " + what, x.place(move), -1);
            x.state(side, 0, back);
            due("9 another PASSING: " + what, x.place(move), -1);
            x.state(side, 0, passing);
            x.put(back, 0);
            due("9 none a rank back: " + what, x.place(move), -1);
        }
    }

    /** Each clause of taking in passing by itself, at a place where all others hold. */
    private static void passingClauses() {
        Game x = Setup.of("4k3/8/8/3pP3/8/8/8/4K3 w - d6");
        int move = Setup.move("e5d6");
        due("9 all clauses hold", x.kind(move), 3);
        for (int man = 0; man <= 12; man++) {
            if (Geometry.typeOf(man) != KING || man == 0) {
                x.put("d5", man);
                due("9 piece " + man + " a rank back", x.legal(move), man == 7);
            }
        }
        x.put("d5", 7);
        for (int man = 0; man <= 12; man++) {
            if (man == 0 || Geometry.typeOf(man) != KING && man != 2 && man != 3) {
                x.put("d6", man);
                due("9 piece " + man + " on PASSING", x.legal(move), man == 0 || man > 6);
                due("11 piece " + man + " on PASSING", x.kind(move), man == 0 ? "3" : man > 6 ? "1" : Game.ARGUMENT);
            }
        }
        x.put("d6", 9);
        due("13 what stands on PASSING is taken", x.make(move) + " " + x.at("d6 d5 e5"), x.count() + " 1 7 0");
        for (int passing = -1; passing < 64; passing++) {
            Game y = Setup.of("4k3/8/8/3pPp2/8/8/8/4K3 w - -");
            y.state(0, 0, passing);
            due("9 left, PASSING " + passing, y.legal("e5d6"), passing == Setup.square("d6"));
            due("9 right, PASSING " + passing, y.legal("e5f6"), passing == Setup.square("f6"));
        }
        Game other = Setup.of("4k3/8/8/3pP3/8/8/8/4K3 b - d6");
        due("9 the other side to move", other.legal("e5d6") || other.legal("d5d6"), false);
        Game own = Setup.of("4k3/8/8/8/3pP3/8/8/4K3 b - e3");
        due("9 black's", own.kind("d4e3"), 3);
        own.state(0, 0, Setup.square("e3"));
        due("9 white's own", own.from("e4"), 1);
    }

    /** Only a pawn takes in passing; other pieces go to PASSING and leave the pawn where it stands. */
    private static void othersToPassing() {
        String[][] rows = {{"4k3/8/8/3p4/4N3/8/8/4K3 w - d6", "e4d6"}, {"4k3/8/8/3pB3/8/8/8/4K3 w - d6", "e5d6"},
            {"4k3/8/R7/3p4/8/8/8/4K3 w - d6", "a6d6"}, {"k7/8/8/3pQ3/8/8/8/4K3 w - d6", "e5d6"},
            {"7k/8/8/3pK3/8/8/8/8 w - d6", "e5d6"}};
        for (String[] row : rows) {
            Game x = Setup.of(row[0]);
            due("11 " + row[0], Game.parts(x.kind(row[1]), 3), 0);
            x.make(row[1]);
            due("13 " + row[0], x.at("d5"), 7);
        }
    }

    /** "It is LEGAL if the king does not stand on a square that the other side ATTACKS, when it has been made." */
    private static void legal() {
        String[][] yes = {
            {"the king leaves the line", "4k3/8/8/8/8/8/8/r3K1R1 w - -", "e1d2"},
            {"takes what gives check", "4k3/8/8/8/8/8/1B6/r3K3 w - -", "b2a1"},
            {"comes between", "4k3/8/8/8/8/2N5/8/r3K3 w - -", "c3d1"},
            {"along the line of the pin", "4r2k/8/8/4R3/8/8/8/4K3 w - -", "e5e2"},
            {"takes what pins it", "4r2k/8/8/4R3/8/8/8/4K3 w - -", "e5e8"},
            {"aslant along the pin", "7k/8/8/8/7b/8/5B2/4K3 w - -", "f2g3"},
            {"takes aslant what pins it", "7k/8/8/8/7b/8/5B2/4K3 w - -", "f2h4"},
            {"a pawn takes what pins it", "7k/8/8/8/8/6b1/5P2/4K3 w - -", "f2g3"},
            {"a pawn goes on in the pin", "4r2k/8/8/8/8/8/4P3/4K3 w - -", "e2e4"},
            {"the king leaves two checks", "4r2k/8/8/8/8/8/6n1/4K3 w - -", "e1d1"},
            {"takes in passing what gives check", "7k/8/8/2pP4/1K6/8/8/8 w - c6", "d5c6"},
            {"in passing, the rank stays closed", "8/8/8/K1NpP2r/8/8/8/7k w - d6", "e5d6"},
            {"in passing along the pin", "1b5k/8/8/3pP3/8/8/7K/8 w - d6", "e5d6"},
            {"in passing comes between", "4b2k/8/8/2pP4/K7/8/8/8 w - c6", "d5c6"},
            {"takes a piece that none guards", "7k/8/8/8/8/8/4q3/4K3 w - -", "e1e2"}};
        for (String[] row : yes) {
            due("9 " + row[0] + ": " + row[1], Setup.of(row[1]).legal(row[2]), true);
        }
        String[][] no = {
            {"stays in check", "4k3/8/8/8/8/8/8/r3K1R1 w - -", "g1g2"},
            {"along the line of the check", "4k3/8/8/8/8/8/8/r3K3 w - -", "e1f1"},
            {"towards the rook", "4k3/8/8/8/8/8/8/r3K3 w - -", "e1d1"},
            {"leaves the pin", "4r2k/8/8/4R3/8/8/8/4K3 w - -", "e5d5"},
            {"leaves the pin aslant", "7k/8/8/8/7b/8/5B2/4K3 w - -", "f2e3"},
            {"a pinned knight", "4r2k/8/8/8/8/8/4N3/4K3 w - -", "e2c3"},
            {"a pinned pawn takes", "4r2k/8/8/8/8/3n4/4P3/4K3 w - -", "e2d3"},
            {"a pawn pinned aslant goes on", "7k/8/8/8/8/6b1/5P2/4K3 w - -", "f2f3"},
            {"two checks, one is taken", "4r2k/8/8/8/8/8/6n1/4K1R1 w - -", "g1g2"},
            {"beside the other king", "8/8/8/8/8/4k3/8/4K3 w - -", "e1e2"},
            {"takes a guarded piece", "4r2k/8/8/8/8/8/4q3/4K3 w - -", "e1e2"},
            {"to what a pawn attacks", "7k/8/8/8/8/3p4/8/4K3 w - -", "e1e2"},
            {"to what a knight attacks", "7k/8/8/8/3n4/8/8/4K3 w - -", "e1e2"},
            {"in passing, the rank opens", "8/8/8/K2pP2r/8/8/8/7k w - d6", "e5d6"},
            {"in passing, the pawn's own file opens", "4r2k/8/8/3pP3/8/8/8/4K3 w - d6", "e5d6"},
            {"in passing, the taken pawn's diagonal opens", "b6k/8/8/3pP3/8/8/6K1/8 w - d6", "e5d6"},
            {"in passing, another check stays", "4k3/8/8/3pP3/8/8/8/r3K3 w - d6", "e5d6"},
            {"black in passing, the rank opens", "7K/8/8/8/k2Pp2R/8/8/8 b - d3", "e4d3"}};
        for (String[] row : no) {
            due("9 " + row[0] + ": " + row[1], Setup.of(row[1]).legal(row[2]), false);
        }
        due("9 in passing along the diagonal", Setup.of("7k/8/8/3pP3/8/8/6K1/8 w - d6").legal("e5d6"), true);
    }

    /** "The LIST has all LEGAL moves, by from, then to, then kind, the least first." */
    private static void order() {
        String[] fens = {"r3k2r/p1ppqpb1/bn2pnp1/3PN3/1p2P3/2N2Q1p/PPPBBPPP/R3K2R w KQkq -", "n1n4k/1P6/8/8/8/8/8/K7 w - -",
            "r3k2r/8/8/8/8/8/8/R3K2R w KQkq -", "r3k2r/8/8/8/8/8/8/R3K2R b KQkq -", "7k/8/8/3pPp2/4Q3/8/8/K6N w - d6",
            "R6R/3Q4/1Q4Q1/4Q3/2Q4Q/Q4Q2/pp1Q4/kBNN1KB1 w - -", "k7/8/8/8/8/8/pp1p4/1NN1N2K b - -"};
        for (String fen : fens) {
            Game x = Setup.of(fen);
            int count = Integer.parseInt(x.count());
            long last = -1;
            for (int i = 0; i < count; i++) {
                int move = Integer.parseInt(x.move(i));
                long key = move % 64 * 100000L + move / 64 % 64 * 100L + move / 4096;
                due("8 in order, " + i + " of " + fen, key > last, true);
                due("9 its place, " + i + " of " + fen, x.place(move), i);
                last = key;
            }
        }
        due("8 the castling ones in their places", Setup.of("4k3/8/8/8/8/8/P6P/R3K2R w KQ -").list(),
                list("a1b1 a1c1 a1d1 e1c1 e1d1 e1f1 e1g1 e1d2 e1e2 e1f2 h1f1 h1g1 a2a3 a2a4 h2h3 h2h4"));
        due("8 to before kind", Setup.of("k7/8/8/8/8/8/p7/1N5K b - -").list(),
                list("a2a1n a2a1b a2a1r a2a1q a2b1n a2b1b a2b1r a2b1q a8a7 a8b7 a8b8"));
        due("8 a knight's", Setup.of("7k/8/8/3N4/8/8/8/K7 w - -").list(),
                list("a1b1 a1a2 a1b2 d5c3 d5e3 d5b4 d5f4 d5b6 d5f6 d5c7 d5e7"));
        due("8 one to PASSING in its place", Setup.of("7k/8/8/3pPp2/8/8/8/K7 w - d6").list(),
                list("a1b1 a1a2 a1b2 e5d6 e5e6"));
    }

    /** The fullest boards there are: no LIST is too long to be told whole. */
    private static void longLists() {
        String most = "R6R/3Q4/1Q4Q1/4Q3/2Q4Q/Q4Q2/pp1Q4/kBNN1KB1 w - -";
        due("7 the most that a game can bring", Setup.of(most).count(), 218);
        due("12 the most that a game can bring", Setup.of(most).lines(1), 218);
        due("8 the last of them", Setup.of(most).move(217), Setup.move("h8g8"));
        due("8 and no more", Setup.of(most).move(218), Game.INDEX);
        // Found by trying pieces on all squares for the longest LIST; many tries ended at the same length.
        Game x = Setup.of("QQQQQQBk/Q5RB/Q6Q/Q6Q/Q6Q/Q6Q/Q6Q/KQQQQQQQ w - -");
        due("7 the most that can be set up", x.count(), 271);
        due("8 the last of them", x.move(270), Setup.move("g8f7"));
        due("8 and no more", x.move(271), Game.INDEX);
        due("9 the last of them", x.place("g8f7"), 270);
        int sum = 0;
        for (int square = 0; square < 64; square++) {
            sum += Integer.parseInt(x.on(square, true)) + Integer.parseInt(x.on(square, false));
        }
        due("10 all from and all to", sum, 2 * 271);
        // The lines that Stockfish 15.1 counts here.
        Game both = Setup.of("QqQqQqNk/Q4qqN/q5Qq/Q6q/q6Q/QQ5q/pnq4Q/KQQQqQqq w - -");
        due("12 many moves of both", both.lines(1) + " " + both.lines(2) + " " + both.lines(3), "187 33368 5556096");
    }

    private static String list(String moves) {
        String[] names = moves.split(" ");
        StringBuilder all = new StringBuilder().append(names.length).append(':');
        for (String name : names) {
            all.append(' ').append(Setup.move(name));
        }
        return all.toString();
    }

    public static void main(String[] args) {
        piecesGo();
        piecesStop();
        fromAndTo();
        numbers();
        kindsOfMoves();
        pawnsAlone();
        pawnsBlocked();
        pawnsTake();
        inPassing();
        passingClauses();
        othersToPassing();
        legal();
        order();
        longLists();
        CHECK.end();
    }
}
