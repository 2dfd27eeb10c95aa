/**
 * The legal moves of chess: of any position that is set up, all moves that the side to move may
 * make, in order; moves are made and taken back, and the moves of all lines down to a depth are
 * counted.
 */
public final class MoveList {
    /** There is none. */
    public static final int NONE = -1;

    private static final int SQUARES = 64;
    private static final int LAST_PIECE = 12;
    private static final int BLACK_PIECES = 6;
    private static final int ALL_RIGHTS = 15;
    private static final int MOST_DEPTH = 3;
    private static final int MOST_MADE = 200;

    // Lines of three moves, with one more that is only tried, are played on top of those made.
    private static final int MOST_PLAYED = MOST_MADE + MOST_DEPTH + 1;

    // A square is reached by eight knights at most, and by one piece along each of eight lines; on the
    // last rank, where a pawn becomes four things, by 18 moves at most, but then on the first by 9.
    private static final int MOST_MOVES = 16 * SQUARES;

    private static final int PAWN = 1;
    private static final int KNIGHT = 2;
    private static final int BISHOP = 3;
    private static final int ROOK = 4;
    private static final int QUEEN = 5;
    private static final int KING = 6;

    private static final int TAKES = 1;
    private static final int IN_PASSING = 2;
    private static final int CASTLES = 4;
    private static final int PROMOTES = 8;
    private static final int GIVES_CHECK = 16;
    private static final int ENDS_GAME = 32;

    // Directions 0 .. 3 are the straight ones, 4 .. 7 the diagonals.
    private static final int DIRECTIONS = 8;
    private static final int DIAGONALS = 4;
    private static final int QUEEN_SIDE = 1;
    private static final int KING_SIDE = 2;
    private static final int[] FILE_STEPS = {0, -1, 1, 0, -1, 1, -1, 1};
    private static final int[] RANK_STEPS = {-1, 0, 0, 1, -1, -1, 1, 1};

    private static final int[] KNIGHT_FILES = {-1, 1, -2, 2, -2, 2, -1, 1};
    private static final int[] KNIGHT_RANKS = {-2, -2, -1, -1, 1, 1, 2, 2};

    private static final int[] FIRST_RANK = {ROOK, KNIGHT, BISHOP, QUEEN, KING, BISHOP, KNIGHT, ROOK};

    private final Board board;
    private final Position position;
    private final Finder finder;

    // A list for each depth, as the moves of one are gone through while the next is filled.
    private final Moves[] lists;

    /** An empty board. */
    public MoveList() {
        board = new Board();
        position = new Position(board);
        finder = new Finder(board, position);
        lists = new Moves[MOST_DEPTH];
        for (int i = 0; i < MOST_DEPTH; i++) {
            lists[i] = new Moves();
        }
    }

    /** All is as at first. */
    public void clear() {
        board.sweep();
        position.setUp(0, 0, NONE);
    }

    /** The position in which a game of chess begins. */
    public void begin() {
        board.sweep();
        board.layGame();
        position.setUp(0, ALL_RIGHTS, NONE);
    }

    /** A square gets a piece (or none). */
    public void put(int square, int piece) throws IndexOutOfBoundsException, IllegalArgumentException {
        if (!isSquare(square)) {
            throw new IndexOutOfBoundsException("no such square");
        }
        if (piece < 0 || piece > LAST_PIECE) {
            throw new IllegalArgumentException("no such piece");
        }
        board.lay(square, piece);
        board.findKings();
        position.forgetMade();
    }

    /** SIDE, RIGHTS and PASSING are set up. */
    public void state(int side, int rights, int passing) throws IllegalArgumentException {
        if (side != 0 && side != 1) {
            throw new IllegalArgumentException("no such side");
        }
        if (rights < 0 || rights > ALL_RIGHTS) {
            throw new IllegalArgumentException("no such rights");
        }
        if (passing != NONE && !isSquare(passing)) {
            throw new IllegalArgumentException("no such square in passing");
        }
        position.setUp(side, rights, passing);
    }

    /** Whether the position can be PLAYED. */
    public boolean playable() {
        return position.canBePlayed();
    }

    /** How many moves the LIST has. */
    public int count() throws IllegalStateException {
        needPlayed();
        return legalMoves().size();
    }

    /** Move i of the LIST. */
    public int move(int i) throws IllegalStateException, IndexOutOfBoundsException {
        needPlayed();
        Moves list = legalMoves();
        if (i < 0 || i >= list.size()) {
            throw new IndexOutOfBoundsException("no such move");
        }
        list.sort();
        return list.get(i);
    }

    /** The place of a move in the LIST; NONE if it is not LEGAL. */
    public int place(int move) throws IllegalStateException {
        needPlayed();
        Moves list = legalMoves();
        list.sort();
        return list.indexOf(move);
    }

    /** How many LEGAL moves come from a square (which true), or go to it. */
    public int on(int square, boolean which) throws IllegalStateException {
        needPlayed();
        Moves list = legalMoves();
        return which ? list.countFrom(square) : list.countTo(square);
    }

    /** What a LEGAL move does, as a sum. */
    public int kind(int move) throws IllegalStateException, IllegalArgumentException {
        needPlayed();
        needLegal(move);
        return position.doneBy(move) + broughtBy(move);
    }

    /** COUNTING; depth 0 .. 3. */
    public long lines(int depth) throws IllegalStateException, IllegalArgumentException {
        needPlayed();
        if (depth < 0 || depth > MOST_DEPTH) {
            throw new IllegalArgumentException("no such depth");
        }
        return linesTo(depth);
    }

    /** A LEGAL move is made: how many LEGAL moves there are then. */
    public int make(int move)
            throws IllegalStateException, IllegalArgumentException, UnsupportedOperationException {
        needPlayed();
        needLegal(move);
        if (position.made() >= MOST_MADE) {
            throw new UnsupportedOperationException("no more moves can be taken back");
        }
        position.play(move);
        return legalMoves().size();
    }

    /** The latest move that was made (and was not taken back) is taken back: it; NONE if there is none. */
    public int unmake() {
        return position.takeBack();
    }

    /** The piece on a square; NONE if there is none such. */
    public int at(int square) {
        return isSquare(square) ? board.pieceOn(square) : NONE;
    }

    /** Whether the king of the side to move stands on a square that the other one ATTACKS. */
    public boolean check() throws IllegalStateException {
        needPlayed();
        return position.inCheck();
    }

    /** The squares with pieces of the side to move that shield their king, as bits of a long. */
    public long pinned() throws IllegalStateException {
        needPlayed();
        return board.shields(position.side());
    }

    /** which 0: SIDE, 1: RIGHTS, 2: PASSING, 3: moves that can be taken back. */
    public int look(int which) {
        switch (which) {
            case 0:
                return position.side();
            case 1:
                return position.rights();
            case 2:
                return position.passing();
            case 3:
                return position.made();
            default:
                return NONE;
        }
    }

    private void needPlayed() {
        if (!position.canBePlayed()) {
            throw new IllegalStateException("the position can not be played");
        }
    }

    private void needLegal(int move) {
        finder.fill(lists[0]);
        if (lists[0].indexOf(move) == NONE) {
            throw new IllegalArgumentException("the move is not legal");
        }
    }

    /** The moves of the LIST, not yet sorted: most calls do not ask for the order. */
    private Moves legalMoves() {
        finder.fill(lists[0]);
        return lists[0];
    }

    private int broughtBy(int move) {
        position.play(move);
        int sum = position.inCheck() ? GIVES_CHECK : 0;
        finder.fill(lists[0]);
        if (lists[0].size() == 0) {
            sum += ENDS_GAME;
        }
        position.takeBack();
        return sum;
    }

    private long linesTo(int depth) {
        if (depth <= 0 || depth > MOST_DEPTH) {
            return 1L;
        }
        Moves moves = lists[depth - 1];
        finder.fill(moves);
        if (depth == 1) {
            return moves.size();
        }
        int size = moves.size();
        long sum = 0L;
        for (int i = 0; i < size; i++) {
            position.play(moves.get(i));
            sum += linesTo(depth - 1);
            position.takeBack();
        }
        return sum;
    }

    private static boolean isSquare(int square) {
        return square >= 0 && square < SQUARES;
    }

    private static int fileOf(int square) {
        return square & 7;
    }

    private static int rankOf(int square) {
        return square >> 3;
    }

    private static int sideOf(int piece) {
        if (piece == 0) {
            return NONE;
        }
        return piece > BLACK_PIECES ? 1 : 0;
    }

    private static int typeOf(int piece) {
        return piece > BLACK_PIECES ? piece - BLACK_PIECES : piece;
    }

    private static int pieceOf(int type, int side) {
        return type + BLACK_PIECES * side;
    }

    /** What a pawn of a side adds to its square when it goes one rank on. */
    private static int forwardOf(int side) {
        return side == 0 ? 8 : -8;
    }

    private static int moveOf(int from, int to, int kind) {
        return from + 64 * to + 4096 * kind;
    }

    private static int fromOf(int move) {
        return move & 63;
    }

    private static int toOf(int move) {
        return move >> 6 & 63;
    }

    private static int kindOf(int move) {
        return move >> 12;
    }

    /** The square that is some files and ranks away; NONE if that is off the board. */
    private static int beside(int square, int files, int ranks) {
        int file = (square & 7) + files;
        int rank = (square >> 3) + ranks;
        return file < 0 || file > 7 || rank < 0 || rank > 7 ? NONE : 8 * rank + file;
    }

    private static int stepOf(int direction) {
        return FILE_STEPS[direction] + 8 * RANK_STEPS[direction];
    }

    /** How many squares there are from a square to the edge of the board. */
    private static int reach(int square, int direction) {
        int file = square & 7;
        int rank = square >> 3;
        int files = FILE_STEPS[direction];
        int ranks = RANK_STEPS[direction];
        int across = files == 0 ? 7 : files > 0 ? 7 - file : file;
        int along = ranks == 0 ? 7 : ranks > 0 ? 7 - rank : rank;
        return across < along ? across : along;
    }

    /** The right that goes with a rook's corner; 0 for any other square. */
    private static int rightOf(int corner) {
        switch (corner) {
            case 7:
                return 1;
            case 0:
                return 2;
            case 63:
                return 4;
            case 56:
                return 8;
            default:
                return 0;
        }
    }

    /** Moves in a row that is made once and used again. */
    private static final class Moves {
        private final int[] row;
        private int size;

        Moves() {
            row = new int[MOST_MOVES];
            size = 0;
        }

        int size() {
            return size;
        }

        int get(int i) {
            return i >= 0 && i < size ? row[i] : NONE;
        }

        void empty() {
            size = 0;
        }

        void add(int move) {
            if (size < row.length) {
                row[size] = move;
                size++;
            }
        }

        /** Puts a move nearer to the front, where one stood that is not kept. */
        void keep(int i, int move) {
            if (i >= 0 && i < size) {
                row[i] = move;
            }
        }

        void cutTo(int kept) {
            if (kept >= 0 && kept < size) {
                size = kept;
            }
        }

        /** By from, then to, then kind; most come by from already, so that few are shifted far. */
        void sort() {
            for (int i = 1; i < size; i++) {
                int move = row[i];
                int order = orderOf(move);
                int k = i;
                while (k > 0 && orderOf(row[k - 1]) > order) {
                    row[k] = row[k - 1];
                    k--;
                }
                row[k] = move;
            }
        }

        private static int orderOf(int move) {
            return (fromOf(move) * SQUARES + toOf(move)) * 8 + kindOf(move);
        }

        int indexOf(int move) {
            for (int i = 0; i < size; i++) {
                if (row[i] == move) {
                    return i;
                }
            }
            return NONE;
        }

        int countFrom(int square) {
            int sum = 0;
            for (int i = 0; i < size; i++) {
                if (fromOf(row[i]) == square) {
                    sum++;
                }
            }
            return sum;
        }

        int countTo(int square) {
            int sum = 0;
            for (int i = 0; i < size; i++) {
                if (toOf(row[i]) == square) {
                    sum++;
                }
            }
            return sum;
        }
    }

    /** The pieces, and what they ATTACK. */
    private static final class Board {
        private final int[] pieces;

        // Of each side the square of its king, NONE if it has not just one.
        private final int[] kings;

        Board() {
            pieces = new int[SQUARES];
            kings = new int[] {NONE, NONE};
        }

        void sweep() {
            for (int square = 0; square < SQUARES; square++) {
                pieces[square] = 0;
            }
            findKings();
        }

        void layGame() {
            for (int file = 0; file < FIRST_RANK.length; file++) {
                lay(file, pieceOf(FIRST_RANK[file], 0));
                lay(8 + file, pieceOf(PAWN, 0));
                lay(48 + file, pieceOf(PAWN, 1));
                lay(56 + file, pieceOf(FIRST_RANK[file], 1));
            }
            findKings();
        }

        int pieceOn(int square) {
            return square >= 0 && square < SQUARES ? pieces[square] : 0;
        }

        void lay(int square, int piece) {
            if (isSquare(square)) {
                pieces[square] = piece;
            }
        }

        void carry(int from, int to) {
            if (!isSquare(from) || !isSquare(to)) {
                return;
            }
            int piece = pieces[from];
            pieces[from] = 0;
            pieces[to] = piece;
            if (typeOf(piece) == KING) {
                kings[piece == KING ? 0 : 1] = to;
            }
        }

        void findKings() {
            kings[0] = onlySquareOf(pieceOf(KING, 0));
            kings[1] = onlySquareOf(pieceOf(KING, 1));
        }

        private int onlySquareOf(int piece) {
            int found = NONE;
            for (int square = 0; square < SQUARES; square++) {
                if (pieces[square] == piece) {
                    if (found != NONE) {
                        return NONE;
                    }
                    found = square;
                }
            }
            return found;
        }

        int kingOf(int side) {
            return side == 0 ? kings[0] : kings[1];
        }

        /** The square of the first piece that is met from a square on; NONE if there is none. */
        int firstFrom(int square, int direction) {
            int step = stepOf(direction);
            int reach = reach(square, direction);
            int found = square;
            for (int n = 0; n < reach; n++) {
                found += step;
                if (pieceOn(found) != 0) {
                    return found;
                }
            }
            return NONE;
        }

        /** Whether a side ATTACKS a square: the lines are looked along from the square, backwards. */
        boolean attacked(int square, int by) {
            if (!isSquare(square)) {
                return false;
            }
            for (int direction = 0; direction < DIRECTIONS; direction++) {
                int found = firstFrom(square, direction);
                boolean near = found == square + stepOf(direction);
                if (found != NONE && strikes(pieceOn(found), by, direction, near)) {
                    return true;
                }
            }
            return knightStrikes(square, by);
        }

        /** Whether a piece that is met in a direction is one of a side that ATTACKS back along it. */
        private static boolean strikes(int piece, int by, int direction, boolean near) {
            if (sideOf(piece) != by) {
                return false;
            }
            switch (typeOf(piece)) {
                case PAWN:
                    return near && direction >= DIAGONALS && 8 * RANK_STEPS[direction] == -forwardOf(by);
                case BISHOP:
                    return direction >= DIAGONALS;
                case ROOK:
                    return direction < DIAGONALS;
                case QUEEN:
                    return true;
                case KING:
                    return near;
                default:
                    return false;
            }
        }

        private boolean knightStrikes(int square, int by) {
            int knight = pieceOf(KNIGHT, by);
            for (int i = 0; i < KNIGHT_FILES.length; i++) {
                int near = beside(square, KNIGHT_FILES[i], KNIGHT_RANKS[i]);
                if (near != NONE && pieceOn(near) == knight) {
                    return true;
                }
            }
            return false;
        }

        /** The pieces of a side that stand alone between its king and what would ATTACK it. */
        long shields(int side) {
            int king = kingOf(side);
            if (king == NONE) {
                return 0L;
            }
            long sum = 0L;
            for (int direction = 0; direction < DIRECTIONS; direction++) {
                int shield = firstFrom(king, direction);
                if (shield == NONE || sideOf(pieceOn(shield)) != side) {
                    continue;
                }
                int behind = firstFrom(shield, direction);
                if (behind != NONE && strikes(pieceOn(behind), 1 - side, direction, false)) {
                    sum |= 1L << shield;
                }
            }
            return sum;
        }
    }

    /** A board with SIDE, RIGHTS and PASSING, and the moves that were made on it. */
    private static final class Position {
        private final Board board;
        private int side;
        private int rights;
        private int passing;

        // Of each move made: it, what it took and where, and what was there before it.
        private int made;
        private final int[] moves;
        private final int[] taken;
        private final int[] takenOn;
        private final int[] rightsBefore;
        private final int[] passingBefore;

        Position(Board board) {
            this.board = board;
            side = 0;
            rights = 0;
            passing = NONE;
            made = 0;
            moves = new int[MOST_PLAYED];
            taken = new int[MOST_PLAYED];
            takenOn = new int[MOST_PLAYED];
            rightsBefore = new int[MOST_PLAYED];
            passingBefore = new int[MOST_PLAYED];
        }

        int side() {
            return side;
        }

        int rights() {
            return rights;
        }

        int passing() {
            return passing;
        }

        int made() {
            return made;
        }

        void setUp(int newSide, int newRights, int newPassing) {
            side = newSide;
            rights = newRights;
            passing = newPassing;
            forgetMade();
        }

        void forgetMade() {
            made = 0;
        }

        boolean canBePlayed() {
            int other = board.kingOf(1 - side);
            return board.kingOf(side) != NONE && other != NONE && !board.attacked(other, side);
        }

        boolean inCheck() {
            return board.attacked(board.kingOf(side), 1 - side);
        }

        /** Whether a move that a pawn has is one to PASSING: only there it goes aslant to an empty square. */
        boolean takesInPassing(int move) {
            int from = fromOf(move);
            int to = toOf(move);
            return typeOf(board.pieceOn(from)) == PAWN
                    && fileOf(from) != fileOf(to)
                    && board.pieceOn(to) == 0;
        }

        /** What a LEGAL move does on the board, without what it brings to the other side. */
        int doneBy(int move) {
            int sum = 0;
            if (board.pieceOn(toOf(move)) != 0) {
                sum += TAKES;
            }
            if (takesInPassing(move)) {
                sum += TAKES + IN_PASSING;
            }
            if (castles(typeOf(board.pieceOn(fromOf(move))), move)) {
                sum += CASTLES;
            }
            if (kindOf(move) != 0) {
                sum += PROMOTES;
            }
            return sum;
        }

        /** Only CASTLING takes a king two squares on. */
        private static boolean castles(int type, int move) {
            int way = toOf(move) - fromOf(move);
            return type == KING && (way == 2 || way == -2);
        }

        void play(int move) {
            if (made >= MOST_PLAYED) {
                return;
            }
            int from = fromOf(move);
            int to = toOf(move);
            int type = typeOf(board.pieceOn(from));
            int on = takesInPassing(move) ? to - forwardOf(side) : to;
            remember(move, on);
            board.lay(on, 0);
            board.carry(from, to);
            if (kindOf(move) != 0) {
                board.lay(to, pieceOf(kindOf(move), side));
            }
            if (castles(type, move)) {
                board.carry(cornerOf(from, to), (from + to) / 2);
            }
            loseRights(type, from, to);
            passing = type == PAWN ? passedOf(from, to) : NONE;
            side = 1 - side;
        }

        private void remember(int move, int on) {
            moves[made] = move;
            taken[made] = board.pieceOn(on);
            takenOn[made] = on;
            rightsBefore[made] = rights;
            passingBefore[made] = passing;
            made++;
        }

        /** The move that is taken back, NONE if there is none. */
        int takeBack() {
            if (made <= 0) {
                return NONE;
            }
            made--;
            side = 1 - side;
            rights = rightsBefore[made];
            passing = passingBefore[made];
            int move = moves[made];
            int from = fromOf(move);
            int to = toOf(move);
            if (kindOf(move) != 0) {
                board.lay(to, pieceOf(PAWN, side));
            }
            board.carry(to, from);
            if (castles(typeOf(board.pieceOn(from)), move)) {
                board.carry((from + to) / 2, cornerOf(from, to));
            }
            board.lay(takenOn[made], taken[made]);
            return move;
        }

        /** The corner that the rook of CASTLING comes from. */
        private static int cornerOf(int from, int to) {
            return to > from ? from + 3 : from - 4;
        }

        private void loseRights(int type, int from, int to) {
            int lost = rightOf(from) | rightOf(to);
            if (type == KING) {
                lost |= side == 0 ? 3 : 12;
            }
            rights &= ~lost;
        }

        /** The square that a pawn passed, if a pawn of the other side, which is beside it now, ATTACKS it. */
        private int passedOf(int from, int to) {
            if (to - from != 16 && from - to != 16) {
                return NONE;
            }
            int pawn = pieceOf(PAWN, 1 - side);
            boolean attacked = board.pieceOn(beside(to, -1, 0)) == pawn || board.pieceOn(beside(to, 1, 0)) == pawn;
            return attacked ? (from + to) / 2 : NONE;
        }
    }

    /**
     * Finds the LEGAL moves: those that the pieces have, less those that leave the king ATTACKED. It is
     * asked only where the position can be PLAYED; there no piece reaches the other king.
     */
    private static final class Finder {
        private final Board board;
        private final Position position;

        Finder(Board board, Position position) {
            this.board = board;
            this.position = position;
        }

        void fill(Moves out) {
            int side = position.side();
            out.empty();
            addFromAll(side, out);
            addCastling(KING_SIDE, side, out);
            addCastling(QUEEN_SIDE, side, out);
            int king = board.kingOf(side);
            boolean inCheck = position.inCheck();
            long shields = board.shields(side);
            int size = out.size();
            int kept = 0;
            for (int i = 0; i < size; i++) {
                int move = out.get(i);
                int from = fromOf(move);
                // Trying a move is dear, and no others can leave the king attacked.
                boolean doubtful = inCheck || from == king || (shields >>> from & 1L) != 0L
                        || position.takesInPassing(move);
                if (!doubtful || isSafe(move, side)) {
                    out.keep(kept, move);
                    kept++;
                }
            }
            out.cutTo(kept);
        }

        private boolean isSafe(int move, int side) {
            position.play(move);
            boolean safe = !board.attacked(board.kingOf(side), 1 - side);
            position.takeBack();
            return safe;
        }

        private void addFromAll(int side, Moves out) {
            for (int from = 0; from < SQUARES; from++) {
                int piece = board.pieceOn(from);
                if (sideOf(piece) != side) {
                    continue;
                }
                switch (typeOf(piece)) {
                    case PAWN:
                        addPawn(from, side, out);
                        break;
                    case KNIGHT:
                        addKnight(from, side, out);
                        break;
                    case BISHOP:
                        addLines(from, side, DIAGONALS, DIRECTIONS, 7, out);
                        break;
                    case ROOK:
                        addLines(from, side, 0, DIAGONALS, 7, out);
                        break;
                    case QUEEN:
                        addLines(from, side, 0, DIRECTIONS, 7, out);
                        break;
                    default:
                        addLines(from, side, 0, DIRECTIONS, 1, out);
                        break;
                }
            }
        }

        private void addLines(int from, int side, int first, int end, int furthest, Moves out) {
            for (int direction = first; direction < end; direction++) {
                int step = stepOf(direction);
                int reach = reach(from, direction);
                int to = from;
                for (int n = 0; n < reach && n < furthest; n++) {
                    to += step;
                    int met = board.pieceOn(to);
                    if (sideOf(met) != side) {
                        out.add(moveOf(from, to, 0));
                    }
                    if (met != 0) {
                        break;
                    }
                }
            }
        }

        private void addKnight(int from, int side, Moves out) {
            for (int i = 0; i < KNIGHT_FILES.length; i++) {
                int to = beside(from, KNIGHT_FILES[i], KNIGHT_RANKS[i]);
                if (to != NONE && sideOf(board.pieceOn(to)) != side) {
                    out.add(moveOf(from, to, 0));
                }
            }
        }

        private void addPawn(int from, int side, Moves out) {
            int forward = forwardOf(side);
            int next = from + forward;
            if (!isSquare(next)) {
                return;
            }
            if (board.pieceOn(next) == 0) {
                addPawnTo(from, next, out);
                if (rankOf(from) == (side == 0 ? 1 : 6) && board.pieceOn(next + forward) == 0) {
                    addPawnTo(from, next + forward, out);
                }
            }
            int left = beside(next, -1, 0);
            if (canTake(left, side)) {
                addPawnTo(from, left, out);
            }
            int right = beside(next, 1, 0);
            if (canTake(right, side)) {
                addPawnTo(from, right, out);
            }
        }

        /** Whether there is something on a square, or in passing, that a pawn of a side takes. */
        private boolean canTake(int to, int side) {
            if (to == NONE) {
                return false;
            }
            int met = board.pieceOn(to);
            if (met != 0) {
                return sideOf(met) != side;
            }
            return to == position.passing() && board.pieceOn(to - forwardOf(side)) == pieceOf(PAWN, 1 - side);
        }

        private void addPawnTo(int from, int to, Moves out) {
            // No pawn goes back, so that both sides' last ranks can be asked for at once.
            if (rankOf(to) != 0 && rankOf(to) != 7) {
                out.add(moveOf(from, to, 0));
                return;
            }
            for (int kind = KNIGHT; kind <= QUEEN; kind++) {
                out.add(moveOf(from, to, kind));
            }
        }

        private void addCastling(int direction, int side, Moves out) {
            int from = side == 0 ? 4 : 60;
            int corner = direction == KING_SIDE ? from + 3 : from - 4;
            int step = stepOf(direction);
            boolean free = board.kingOf(side) == from
                    && (position.rights() & rightOf(corner)) != 0
                    && board.pieceOn(corner) == pieceOf(ROOK, side)
                    && board.firstFrom(from, direction) == corner;
            if (free && !board.attacked(from, 1 - side) && !board.attacked(from + step, 1 - side)) {
                out.add(moveOf(from, from + 2 * step, 0));
            }
        }
    }
}
