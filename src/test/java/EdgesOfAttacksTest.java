/**
 * The sentences on what pieces ATTACK, on when a position can be PLAYED, and the answers that hang on them:
 * playable, check, pinned. All squares are tried, as the edges are those of the board.
 */
public final class EdgesOfAttacksTest {
    private static final Check CHECK = new Check();
    private static final int KNIGHT = 2;
    private static final int KING = 6;

    private static void due(String what, Object got, Object want) {
        CHECK.due(what, got, want);
    }

    private static int piece(int type, int side) {
        return type + 6 * side;
    }

    private static String told(int piece, int square) {
        return "PNBRQKpnbrqk".charAt(piece - 1) + " " + Geometry.name(square);
    }

    /** "that of the side that is not to move does not stand on a square that the other one ATTACKS" */
    private static void oneAttacker() {
        for (int type = 1; type < KING; type++) {
            for (int a = 0; a < 64; a++) {
                attackerOn(piece(type, a % 2), a);
                attackerOn(piece(type, 1 - a % 2), a);
            }
        }
    }

    private static void attackerOn(int man, int a) {
        int side = Geometry.sideOf(man);
        Game x = new Game();
        x.put(a, man);
        for (int s = 0; s < 64; s++) {
            int king = s;
            if (king == a) {
                continue;
            }
            int own = Geometry.find(o -> o != a && Geometry.steps(o, king) > 1 && !Geometry.between(o, a, king));
            boolean reaches = Geometry.reaches(man, a, king);
            String what = told(man, a) + ", the other king on " + Geometry.name(king);
            x.put(king, piece(KING, 1 - side));
            x.put(own, piece(KING, side));
            x.state(1 - side, 0, -1);
            due("16 " + what, x.check(), reaches);
            x.state(side, 0, -1);
            due("6 " + what, x.playable(), !reaches);
            x.put(king, 0);
            x.put(own, 0);
        }
    }

    /** "a square that the other one ATTACKS": a side's own pieces give its king no check. */
    private static void ownPieces() {
        for (int type = 1; type < KING; type++) {
            for (int a = 0; a < 64; a++) {
                ownPieceOn(piece(type, a % 2), a);
            }
        }
    }

    private static void ownPieceOn(int man, int a) {
        int side = Geometry.sideOf(man);
        boolean aPawn = Geometry.typeOf(man) == 1;
        int king = Geometry.find(k -> Geometry.reaches(man, a, k) || aPawn && Geometry.steps(a, k) == 1);
        int other = Geometry.find(o -> o != a && Geometry.steps(o, king) > 1 && !Geometry.reaches(man, a, o));
        Game x = new Game();
        x.put(a, man);
        x.put(king, piece(KING, side));
        x.put(other, piece(KING, 1 - side));
        x.state(side, 0, -1);
        due("16 own " + told(man, a), x.check(), false);
        x.state(1 - side, 0, -1);
        due("6 own " + told(man, a), x.playable(), true);
    }

    /** "king: the squares a step away in eight directions" */
    private static void twoKings() {
        for (int white = 0; white < 64; white++) {
            Game x = new Game();
            x.put(white, 6);
            for (int black = 0; black < 64; black++) {
                if (black != white) {
                    boolean apart = Geometry.steps(white, black) > 1;
                    String what = "6 kings on " + Geometry.name(white) + " and " + Geometry.name(black);
                    x.put(black, 12);
                    x.state(0, 0, -1);
                    due(what, x.playable(), apart);
                    x.state(1, 0, -1);
                    due(what, x.playable(), apart);
                    x.put(black, 0);
                }
            }
        }
    }

    /** "bishop, rook, queen: as far as the first piece": nothing is attacked behind one, whosever it is. */
    private static void behindAPiece() {
        for (int a = 0; a < 64; a++) {
            for (int king = 0; king < 64; king++) {
                int line = Geometry.straight(a, king) ? 4 : Geometry.aslant(a, king) ? 3 : 0;
                if (line != 0 && Geometry.steps(a, king) > 1) {
                    pieceBetween(piece(line, a % 2), a, king);
                    pieceBetween(piece(5, 1 - a % 2), a, king);
                }
            }
        }
    }

    private static boolean farFromLine(int square, int a, int king) {
        for (int m = 0; m < 64; m++) {
            boolean near = m == square || Geometry.knight(m, square);
            if (Geometry.between(m, a, king) && near) {
                return false;
            }
        }
        return square != a && Geometry.steps(square, king) > 1;
    }

    private static void pieceBetween(int man, int a, int king) {
        int side = Geometry.sideOf(man);
        int own = Geometry.find(o -> farFromLine(o, a, king));
        Game x = new Game();
        x.put(a, man);
        x.put(king, piece(KING, 1 - side));
        x.put(own, piece(KING, side));
        x.state(1 - side, 0, -1);
        String what = told(man, a) + ", the other king on " + Geometry.name(king);
        due("16 none between: " + what, x.check(), true);
        for (int m = 0; m < 64; m++) {
            if (Geometry.between(m, a, king)) {
                x.put(m, piece(KNIGHT, side));
                due("16 an own piece on " + Geometry.name(m) + ": " + what, x.check() + " " + x.pinned(), "false 0");
                x.put(m, piece(KNIGHT, 1 - side));
                due("16 a piece on " + Geometry.name(m) + ": " + what, x.check() + " " + x.pinned(), "false " + (1L << m));
                x.put(m, 0);
            }
        }
        due("16 none between again: " + what, x.check() + " " + x.pinned(), "true 0");
    }

    /** "the first piece, which belongs to them": a king does not take what is guarded. */
    private static void firstPieceBelongs() {
        int[] middle = {0, 7, 9, 27, 36, 54, 56, 63};
        for (int taken : middle) {
            for (int king = 0; king < 64; king++) {
                if (Geometry.steps(taken, king) == 1) {
                    for (int type = 1; type <= KING; type++) {
                        guards(type, king % 2, taken, king);
                    }
                }
            }
        }
    }

    private static void guards(int type, int side, int taken, int king) {
        int man = piece(type, side);
        for (int s = 0; s < 64; s++) {
            int a = s;
            boolean kingBeside = type == KING && Geometry.steps(a, king) == 1;
            if (a == taken || a == king || kingBeside) {
                continue;
            }
            Game x = new Game();
            if (type != KING) {
                x.put(Geometry.find(o -> o != a && Geometry.steps(o, king) > 1 && Geometry.steps(o, taken) > 1
                        && !Geometry.between(o, a, taken)), piece(KING, side));
            }
            x.put(taken, piece(KNIGHT, side));
            x.put(king, piece(KING, 1 - side));
            x.put(a, man);
            x.state(1 - side, 0, -1);
            due("9 the king on " + Geometry.name(king) + " takes on " + Geometry.name(taken) + " what may be guarded by "
                    + told(man, a), x.legal(king + 64 * taken), !Geometry.reaches(man, a, taken));
        }
    }

    /** "each side has just one king" */
    private static void howManyKings() {
        int[] whites = {0, 2, 4};
        int[] blacks = {56, 58, 60};
        for (int side = 0; side < 2; side++) {
            for (int white = 0; white <= 3; white++) {
                for (int black = 0; black <= 3; black++) {
                    Game x = new Game();
                    for (int i = 0; i < white; i++) {
                        x.put(whites[i], 6);
                    }
                    for (int i = 0; i < black; i++) {
                        x.put(blacks[i], 12);
                    }
                    x.state(side, 0, -1);
                    String what = white + " white kings and " + black + " black ones";
                    boolean just = white == 1 && black == 1;
                    due("6 " + what, x.playable(), just);
                    due("7 " + what, x.count(), just ? "3" : Game.STATE);
                }
            }
        }
    }

    /** Kings that are put and taken away again leave just one, or none. */
    private static void kingsComeAndGo() {
        Game x = Setup.of("4k3/8/8/8/8/8/8/4K3 w - -");
        x.put("a1", 6);
        due("6 a second king", x.playable(), false);
        x.put("e1", 0);
        due("6 the first one has gone", x.playable() + " " + x.from("a1") + " " + x.from("e1"), "true 3 0");
        x.put("a1", 6);
        due("6 the same one again", x.playable(), true);
        x.put("a1", 5);
        due("6 a queen stands where it stood", x.playable(), false);
        x.put("e8", 6);
        due("6 black's became white's", x.playable(), false);
        x.put("a1", 12);
        due("6 and one became black's", x.playable() + " " + x.from("e8") + " " + x.from("a1"), "true 5 0");
        for (int s = 0; s < 64; s++) {
            x.put(s, 12);
        }
        due("6 a board of kings", x.playable(), false);
        x.put(0, 6);
        due("6 a board of kings", x.playable(), false);
        x.begin();
        due("6 begin()", x.playable(), true);
        x.put("e1", 0);
        due("6 without white's king", x.playable(), false);
        x.put("e1", 6);
        due("6 with it again", x.playable(), true);
        x.put("e8", 0);
        due("6 without black's king", x.playable(), false);
        x.clear();
        due("6 clear()", x.playable(), false);
    }

    /** Kings go with moves, and come back when those are taken back. */
    private static void kingsMove() {
        Game x = Setup.of("4k3/8/8/8/8/8/8/4K2R w K -").played("e1g1");
        due("6 behind castling", x.playable() + " " + x.check(), "true false");
        due("13 behind the king's move", x.make("e8d8"), 16);
        due("6 behind the king's move", x.playable() + " " + x.from("g1") + " " + x.from("e1"), "true 4 0");
        x.unmake();
        x.unmake();
        x.put("e1", 0);
        due("6 the king was on e1 again", x.playable(), false);
    }

    /** "stand between their king and a bishop, rook or queen of the other side that would ATTACK it" */
    private static void shields() {
        for (int king = 0; king < 64; king++) {
            for (int shield = 0; shield < 64; shield++) {
                if (Geometry.straight(king, shield) || Geometry.aslant(king, shield)) {
                    shieldOn(king, shield, king % 2);
                }
            }
        }
    }

    private static void shieldOn(int king, int shield, int side) {
        int other = Geometry.find(o -> o != king && o != shield && Geometry.steps(o, king) > 1
                && !Geometry.straight(king, o) && !Geometry.aslant(king, o) && !Geometry.knight(shield, o));
        Game x = new Game();
        x.put(king, piece(KING, side));
        x.put(shield, piece(KNIGHT, side));
        x.put(other, piece(KING, 1 - side));
        x.state(side, 0, -1);
        String what = "17 king on " + Geometry.name(king) + ", shield on " + Geometry.name(shield);
        due(what, x.pinned(), 0);
        for (int a = 0; a < 64; a++) {
            if (!Geometry.between(shield, king, a)) {
                continue;
            }
            for (int type = 1; type < KING; type++) {
                int man = piece(type, 1 - side);
                boolean pins = type >= 3 && Geometry.reaches(man, a, king);
                x.put(a, man);
                due(what + ", " + told(man, a), x.pinned(), pins ? 1L << shield : 0L);
            }
            if (!Geometry.reaches(piece(5, side), a, other)) {
                x.put(a, piece(5, side));
                due(what + ", an own queen on " + Geometry.name(a), x.pinned(), 0);
            }
            x.put(a, 0);
        }
    }

    /** What stands between may be any piece of the side, on any square; of the other side it is none. */
    private static void anyShield() {
        for (int type = 1; type < KING; type++) {
            Game x = Setup.of("4r2k/8/8/8/8/8/8/4K3 w - -");
            x.put("e4", type);
            due("17 a shield of type " + type, x.pinned(), 1L << 28);
            x.put("e4", type + 6);
            due("17 the other side's of type " + type, x.pinned(), 0);
            Game y = Setup.of("4k3/8/8/8/8/8/6K1/4R3 b - -");
            y.put("e5", type + 6);
            due("17 black's shield of type " + type, y.pinned(), 1L << 36);
            y.put("e5", type);
            due("17 the other side's of type " + type, y.pinned(), 0);
        }
        due("17 bit 0", Setup.of("8/8/8/8/8/8/8/NK5k w - -").pinned(), 0);
        due("17 bits 1 and 8", Setup.of("r6k/8/8/8/8/8/N7/KN5r w - -").pinned(), 1L << 1 | 1L << 8);
        due("17 bit 62 and 55", Setup.of("r5NK/7N/8/8/8/8/8/k6r w - -").pinned(), 1L << 62 | 1L << 55);
        long round = 0L;
        for (String name : new String[] {"c6", "d6", "e6", "c5", "e5", "c4", "d4", "e4"}) {
            round |= 1L << Setup.square(name);
        }
        due("17 all eight", Setup.of("q2q2q1/7k/2NNN3/q1NKN2q/2NNN3/8/q2q2q1/8 w - -").pinned(), round);
    }

    /** "each of them being the only piece between" */
    private static void twoBetween() {
        String[] two = {"4r2k/8/4N3/8/8/8/4N3/4K3 w - -", "4r2k/8/8/8/8/4N3/4N3/4K3 w - -", "4r2k/4N3/8/8/8/8/4N3/4K3 w - -",
            "4r2k/8/4n3/8/8/8/4N3/4K3 w - -", "4r2k/8/4N3/8/8/8/4n3/4K3 w - -", "4r2k/8/4b3/8/8/8/4N3/4K3 w - -",
            "7k/8/8/8/7b/6N1/5N2/4K3 w - -", "7k/8/8/8/7b/6n1/5N2/4K3 w - -", "4k3/4n3/4n3/8/8/8/7K/4R3 b - -",
            "4k3/4n3/4N3/8/8/8/7K/4R3 b - -"};
        for (String fen : two) {
            due("17 " + fen, Setup.of(fen).pinned(), 0);
        }
        due("17 a queen before a rook", Setup.of("4r2k/4q3/8/8/8/8/4N3/4K3 w - -").pinned(), 1L << 12);
        due("17 a bishop before a rook", Setup.of("4r2k/4b3/8/8/8/8/4N3/4K3 w - -").pinned(), 0);
        due("17 nothing between", Setup.of("4r2k/8/8/8/8/8/8/4K3 w - -").pinned(), 0);
        due("17 in check from elsewhere", Setup.of("4r2k/8/8/8/8/3n4/4N3/4K3 w - -").pinned(), 1L << 12);
        due("17 the king of the side that is not to move", Setup.of("4r2k/8/8/8/8/8/4N3/4K3 b - -").pinned(), 0);
    }

    /** What the other side ATTACKS does not hang on its pieces being pinned. */
    private static void pinnedPiecesAttack() {
        due("16 a pinned rook", Setup.of("4k3/8/8/8/8/r3K3/8/8 w - -").check(), true);
        due("16 a pinned rook", Setup.of("k7/r6K/8/8/8/8/8/R7 w - -").check(), true);
        due("9 to what a pinned rook attacks", Setup.of("k7/r7/7K/8/8/8/8/R7 w - -").legal("h6h7"), false);
        due("6 a pinned rook", Setup.of("k7/8/8/8/8/8/R3K3/r7 b - -").playable(), true);
        due("6 a pinned rook", Setup.of("4r3/8/8/8/8/8/k3R3/4K3 w - -").playable(), false);
    }

    public static void main(String[] args) {
        oneAttacker();
        ownPieces();
        twoKings();
        behindAPiece();
        firstPieceBelongs();
        howManyKings();
        kingsComeAndGo();
        kingsMove();
        shields();
        anyShield();
        twoBetween();
        pinnedPiecesAttack();
        CHECK.end();
    }
}
