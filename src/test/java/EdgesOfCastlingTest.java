/** The sentences on CASTLING, clause by clause for each of the four ways to do it, and on how RIGHTS go. */
public final class EdgesOfCastlingTest {
    private static final Check CHECK = new Check();
    private static final int KNIGHT = 2;
    private static final int ROOK = 4;
    private static final int KING = 6;

    /** One of the four ways: RIGHT 1 << number. */
    private static final class Way {
        final int number;
        final int side;
        final int from;
        final int to;
        final int passed;
        final int corner;
        final int move;

        Way(int number) {
            this.number = number;
            side = number / 2;
            boolean kingSide = number % 2 == 0;
            from = side == 0 ? 4 : 60;
            to = kingSide ? from + 2 : from - 2;
            passed = (from + to) / 2;
            corner = kingSide ? from + 3 : from - 4;
            move = from + 64 * to;
        }

        /** The king and all four rooks at home, the other king out of the way, every RIGHT. */
        Game open() {
            Game x = new Game();
            x.put(side == 0 ? 0 : 56, ROOK + 6 * side);
            x.put(side == 0 ? 7 : 63, ROOK + 6 * side);
            x.put(from, KING + 6 * side);
            x.put(side == 0 ? 60 : 4, KING + 6 * (1 - side));
            x.state(side, 15, -1);
            return x;
        }

        String told() {
            return Geometry.name(from) + Geometry.name(to);
        }
    }

    private static void due(String what, Object got, Object want) {
        CHECK.due(what, got, want);
    }

    /** "if the RIGHT for it is there" */
    private static void right(Way w) {
        Game x = w.open();
        for (int rights = 0; rights <= 15; rights++) {
            x.state(w.side, rights, -1);
            due("9 " + w.told() + " with rights " + rights, x.legal(w.move), (rights >> w.number & 1) == 1);
        }
    }

    /** "its rook stands on its corner" */
    private static void rook(Way w) {
        for (int man = 0; man <= 12; man++) {
            if (man != 6 && man != 12) {
                Game x = w.open();
                x.put(w.corner, man);
                due("9 " + w.told() + " with piece " + man + " in the corner", x.legal(w.move), man == ROOK + 6 * w.side);
            }
        }
        Game x = w.open();
        x.put(w.corner, 0);
        int beside = w.corner % 8 == 0 ? w.corner + 1 : w.corner - 1;
        x.put(beside, ROOK + 6 * w.side);
        due("9 " + w.told() + " with the rook beside its corner", x.legal(w.move), false);
        Game y = w.open();
        y.put(w.corner, 0);
        y.put(w.side == 0 ? w.corner + 8 : w.corner - 8, ROOK + 6 * w.side);
        due("9 " + w.told() + " with the rook before its corner", y.legal(w.move), false);
    }

    /** "all squares between them are empty" */
    private static void between(Way w) {
        for (int s = 0; s < 64; s++) {
            if (Geometry.between(s, w.from, w.corner)) {
                for (int whose = 0; whose < 2; whose++) {
                    Game x = w.open();
                    x.put(s, KNIGHT + 6 * whose);
                    due("9 " + w.told() + " with side " + whose + " on " + Geometry.name(s), x.place(w.move), -1);
                    x.put(s, 0);
                    due("9 " + w.told() + " without it", x.legal(w.move), true);
                }
            }
        }
    }

    /** "neither the king's square nor the one it passes is ATTACKED", nor, as it is LEGAL, where it comes to. */
    private static void attacked(Way w) {
        for (int type = 1; type <= KING; type++) {
            for (int s = 0; s < 64; s++) {
                attackedFrom(w, type, s);
            }
        }
    }

    private static void attackedFrom(Way w, int type, int s) {
        int man = type + 6 * (1 - w.side);
        boolean inTheWay = s == w.from || s == w.corner || Geometry.between(s, w.from, w.corner);
        if (inTheWay || type == KING && !outOfReach(w, s)) {
            return;
        }
        Game x = w.open();
        x.put(w.side == 0 ? 60 : 4, 0);
        if (type != KING) {
            x.put(Geometry.find(k -> k != s && outOfReach(w, k) && !touches(w, k) && !stopsLine(w, s, k)), KING + 6 * (1 - w.side));
        }
        x.put(s, man);
        boolean free = !Geometry.reaches(man, s, w.from) && !Geometry.reaches(man, s, w.passed) && !Geometry.reaches(man, s, w.to);
        due("9 " + w.told() + " with piece " + man + " on " + Geometry.name(s), x.legal(w.move), free);
    }

    /** Whether neither the king nor the rooks at home ATTACK a square. */
    private static boolean outOfReach(Way w, int square) {
        return square % 8 != 0 && square % 8 != 7 && square / 8 != w.from / 8 && Geometry.steps(square, w.from) > 1;
    }

    private static boolean touches(Way w, int king) {
        return Geometry.steps(king, w.passed) == 1 || Geometry.steps(king, w.to) == 1;
    }

    private static boolean stopsLine(Way w, int s, int square) {
        return Geometry.between(square, s, w.from) || Geometry.between(square, s, w.passed) || Geometry.between(square, s, w.to);
    }

    /** What is attacked besides does not matter: the rook, its corner, or the square beside that. */
    private static void attackedBeside(Way w) {
        Game x = w.open();
        int far = w.side == 0 ? w.corner + 40 : w.corner - 40;
        x.put(far, ROOK + 6 * (1 - w.side));
        due("9 " + w.told() + " with the rook attacked", x.legal(w.move), true);
        if (w.number % 2 == 1) {
            x.put(far, 0);
            x.put(far + 1, ROOK + 6 * (1 - w.side));
            due("9 " + w.told() + " with the square beside the corner attacked", x.legal(w.move), true);
            x.put(far + 1, 0);
            x.put(far + 2, ROOK + 6 * (1 - w.side));
            due("9 " + w.told() + " with the square it comes to attacked", x.legal(w.move), false);
            x.put(w.side == 0 ? w.corner + 10 : w.corner - 6, 1 + 6 * w.side);
            due("9 " + w.told() + " behind a pawn", x.legal(w.move), true);
        }
    }

    /** "from its own square (e1, e8)": nowhere else two files, whatever the RIGHTS say. */
    private static void ownSquare(int side) {
        for (int s = 0; s < 64; s++) {
            int king = s;
            boolean corner = king == 0 || king == 7 || king == 56 || king == 63;
            if (corner) {
                continue;
            }
            int other = Geometry.find(k -> k % 8 != 0 && k % 8 != 7 && k / 8 != 0 && k / 8 != 7
                    && (Geometry.ranks(k, king) > 1 || Geometry.files(k, king) > 3));
            Game x = new Game();
            for (int c : new int[] {0, 7, 56, 63}) {
                x.put(c, ROOK + 6 * side);
            }
            x.put(king, KING + 6 * side);
            x.put(other, KING + 6 * (1 - side));
            x.state(side, 15, -1);
            boolean home = king == (side == 0 ? 4 : 60);
            if (king % 8 < 6) {
                due("9 side " + side + " from " + Geometry.name(king) + " right", x.legal(king + 64 * (king + 2)), home);
            }
            if (king % 8 > 1) {
                due("9 side " + side + " from " + Geometry.name(king) + " left", x.legal(king + 64 * (king - 2)), home);
            }
        }
    }

    /** "two files to the side", and "the rook comes to the square that is passed" */
    private static void made(Way w) {
        Game x = w.open();
        for (int files = 1; files <= 4; files++) {
            boolean legal = files <= 2;
            due("9 " + w.told() + " " + files + " files", x.legal(w.from + 64 * (w.from + files * (w.passed - w.from))), legal);
        }
        due("11 " + w.told(), Game.parts(x.kind(w.move), 15), 4);
        due("11 " + w.told() + " one file", Game.parts(x.kind(w.from + 64 * w.passed), 15), 0);
        String before = x.seen();
        x.make(w.move);
        int otherCorner = w.number % 2 == 0 ? w.from - 4 : w.from + 3;
        for (int s = w.from - 4; s < w.from + 4; s++) {
            int want = s == w.to ? KING + 6 * w.side : s == w.passed || s == otherCorner ? ROOK + 6 * w.side : 0;
            due("13 behind " + w.told() + " on " + Geometry.name(s), x.at(s), want);
        }
        due("13 behind " + w.told(), x.looks(), (1 - w.side) + " " + (w.side == 0 ? 12 : 3) + " -1 1");
        due("14 " + w.told(), x.unmake(), w.move);
        due("14 " + w.told(), x.seen(), before);
        due("14 " + w.told() + " can be made again", x.legal(w.move), true);
    }

    /** A king that has gone and come back has lost its RIGHTS; one that was taken back has not. */
    private static void cameBack() {
        Game x = Setup.of("r3k2r/8/8/8/8/8/8/R3K2R w KQkq -").played("e1e2", "e8e7", "e2e1", "e7e8");
        due("9 the king has been away", x.legal("e1g1") || x.legal("e1c1"), false);
        due("18 the king has been away", x.looks(), "0 0 -1 4");
        for (int i = 0; i < 4; i++) {
            x.unmake();
        }
        due("9 all is taken back", x.legal("e1g1") && x.legal("e1c1"), true);
        Game y = Setup.of("r3k2r/8/8/8/8/8/8/R3K2R w KQkq -").played("h1h2", "a8a7", "h2h1", "a7a8");
        due("9 a rook has been away", x.legal("e1g1") + " " + y.legal("e1g1") + " " + y.legal("e1c1"), "true false true");
        due("18 two rooks have been away", y.looks(), "0 6 -1 4");
        y.state(0, 15, -1);
        due("9 the right is set up again", y.legal("e1g1"), true);
    }

    /** "RIGHTS of a side go when its king moves; a right goes when a rook's corner is from or to." */
    private static void rightsGo() {
        String[] fens = {"r3k2r/8/8/8/8/8/8/R3K2R", "r3k2r/1P4P1/8/8/8/8/1p4p1/R3K2R", "1k6/8/8/3Q4/8/3K4/8/8",
            "8/1k6/8/3q4/8/8/6K1/8", "b3k2n/8/8/8/8/8/8/N3K2B", "4k3/8/8/8/8/8/1q6/2K5", "2k5/6Q1/8/8/8/8/8/4K3",
            "8/K6k/8/8/8/8/8/8", "8/8/8/8/8/8/k6K/8", "4k3/1P4P1/8/8/8/8/1p4p1/4K3",
            "N6R/3k4/8/8/8/8/3K4/n6r", "R6N/4k3/8/8/8/8/4K3/r6n", "n6r/3k4/8/8/8/8/3K4/N6R", "K6P/8/8/8/8/8/8/p6k"};
        for (String fen : fens) {
            for (int side = 0; side < 2; side++) {
                for (int rights = 0; rights <= 15; rights++) {
                    rightsGo(fen, side, rights);
                }
            }
        }
    }

    private static void rightsGo(String fen, int side, int rights) {
        Game x = Setup.of(fen + " w - -");
        x.state(side, rights, -1);
        if (x.playable().equals("false")) {
            return;
        }
        int count = Integer.parseInt(x.count());
        for (int i = 0; i < count; i++) {
            int move = Integer.parseInt(x.move(i));
            int from = move % 64;
            int to = move / 64 % 64;
            boolean kingMoves = x.at(from).equals("" + (KING + 6 * side));
            int[] corners = {7, 0, 63, 56};
            String want = "";
            for (int right = 3; right >= 0; right--) {
                boolean goes = kingMoves && right / 2 == side || from == corners[right] || to == corners[right];
                want += (rights >> right & 1) == 1 && !goes ? "1" : "0";
            }
            x.make(move);
            due("13 rights " + rights + " of " + fen + " behind " + Geometry.name(from) + Geometry.name(to),
                    Integer.toBinaryString(16 + Integer.parseInt(x.look(1))).substring(1), want);
            x.unmake();
            due("14 rights of " + fen + " before " + Geometry.name(from) + Geometry.name(to), x.look(1), rights);
        }
    }

    public static void main(String[] args) {
        for (int number = 0; number < 4; number++) {
            Way w = new Way(number);
            right(w);
            rook(w);
            between(w);
            attacked(w);
            attackedBeside(w);
            made(w);
        }
        ownSquare(0);
        ownSquare(1);
        cameBack();
        rightsGo();
        CHECK.end();
    }
}
