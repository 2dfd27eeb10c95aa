import java.util.ArrayDeque;
import java.util.ArrayList;
import java.util.Deque;
import java.util.List;

/**
 * The document's words, slowly and in their own order: every pair of squares is asked whether it is a
 * move, and every move is tried on a copy. It shares no code and no ways of counting with MoveList.
 */
final class Oracle {
    private static final int NONE = -1;

    private static final class Pos {
        final int[] men = new int[64];
        int side = 0;
        int rights = 0;
        int passing = NONE;

        Pos copy() {
            Pos p = new Pos();
            System.arraycopy(men, 0, p.men, 0, 64);
            p.side = side;
            p.rights = rights;
            p.passing = passing;
            return p;
        }

        int owner(int s) {
            return men[s] == 0 ? NONE : (men[s] - 1) / 6;
        }

        int type(int s) {
            return men[s] == 0 ? 0 : (men[s] - 1) % 6 + 1;
        }

        /** Whether all squares strictly between two squares of one line are empty. */
        boolean open(int a, int b) {
            int df = Integer.signum(b % 8 - a % 8);
            int dr = Integer.signum(b / 8 - a / 8);
            for (int f = a % 8 + df, r = a / 8 + dr; f != b % 8 || r != b / 8; f += df, r += dr) {
                if (men[8 * r + f] != 0) {
                    return false;
                }
            }
            return true;
        }

        /** Whether the piece on a ATTACKS b. */
        boolean attacks(int a, int b) {
            int df = Math.abs(b % 8 - a % 8);
            int dr = Math.abs(b / 8 - a / 8);
            switch (type(a)) {
                case 1:
                    return df == 1 && b / 8 - a / 8 == (owner(a) == 0 ? 1 : -1);
                case 2:
                    return df * dr == 2;
                case 3:
                    return df == dr && df > 0 && open(a, b);
                case 4:
                    return (df == 0) != (dr == 0) && open(a, b);
                case 5:
                    return (df == dr && df > 0 || (df == 0) != (dr == 0)) && open(a, b);
                case 6:
                    return Math.max(df, dr) == 1;
                default:
                    return false;
            }
        }

        boolean attackedBy(int who, int b) {
            for (int a = 0; a < 64; a++) {
                if (owner(a) == who && attacks(a, b)) {
                    return true;
                }
            }
            return false;
        }

        int king(int who) {
            int found = NONE;
            for (int s = 0; s < 64; s++) {
                if (men[s] == 6 + 6 * who) {
                    if (found != NONE) {
                        return NONE;
                    }
                    found = s;
                }
            }
            return found;
        }

        boolean playable() {
            return king(0) != NONE && king(1) != NONE && !attackedBy(side, king(1 - side));
        }

        boolean inPassing(int from, int to) {
            int back = side == 0 ? to - 8 : to + 8;
            return type(from) == 1 && attacks(from, to) && to == passing && men[to] == 0
                    && back >= 0 && back < 64 && men[back] == (side == 0 ? 7 : 1);
        }

        boolean castling(int from, int to) {
            if (type(from) != 6 || from != (side == 0 ? 4 : 60) || Math.abs(to - from) != 2) {
                return false;
            }
            int right = (to > from ? 1 : 2) * (side == 0 ? 1 : 4);
            int corner = to > from ? from + 3 : from - 4;
            return (rights & right) != 0 && men[corner] == (side == 0 ? 4 : 10) && open(from, corner)
                    && !attackedBy(1 - side, from) && !attackedBy(1 - side, (from + to) / 2);
        }

        boolean pawnGoes(int from, int to) {
            int on = side == 0 ? 8 : -8;
            if (to == from + on) {
                return men[to] == 0;
            }
            if (to == from + 2 * on && from / 8 == (side == 0 ? 1 : 6)) {
                return men[from + on] == 0 && men[to] == 0;
            }
            return attacks(from, to) && owner(to) == 1 - side || inPassing(from, to);
        }

        boolean goes(int from, int to) {
            if (owner(from) != side || owner(to) == side || type(to) == 6) {
                return false;
            }
            return type(from) == 1 ? pawnGoes(from, to) : attacks(from, to) || castling(from, to);
        }

        Pos after(int from, int to, int kind) {
            Pos p = copy();
            if (inPassing(from, to)) {
                p.men[side == 0 ? to - 8 : to + 8] = 0;
            }
            if (castling(from, to)) {
                p.men[to > from ? from + 3 : from - 4] = 0;
                p.men[(from + to) / 2] = side == 0 ? 4 : 10;
            }
            p.men[to] = kind == 0 ? men[from] : kind + 6 * side;
            p.men[from] = 0;
            int[] corners = {7, 0, 63, 56};
            for (int i = 0; i < 4; i++) {
                boolean own = type(from) == 6 && i / 2 == side;
                if ((own || from == corners[i] || to == corners[i]) && (p.rights >> i & 1) == 1) {
                    p.rights -= 1 << i;
                }
            }
            p.passing = NONE;
            if (type(from) == 1 && Math.abs(to - from) == 16) {
                for (int s = 0; s < 64; s++) {
                    if (p.owner(s) == 1 - side && p.type(s) == 1 && p.attacks(s, (from + to) / 2)) {
                        p.passing = (from + to) / 2;
                    }
                }
            }
            p.side = 1 - side;
            return p;
        }

        List<Integer> legal() {
            List<Integer> all = new ArrayList<>();
            for (int from = 0; from < 64; from++) {
                for (int to = 0; to < 64; to++) {
                    if (!goes(from, to)) {
                        continue;
                    }
                    boolean last = type(from) == 1 && to / 8 == (side == 0 ? 7 : 0);
                    for (int kind = last ? 2 : 0; kind <= (last ? 5 : 0); kind++) {
                        Pos p = after(from, to, kind);
                        if (!p.attackedBy(1 - side, p.king(side))) {
                            all.add(from + 64 * to + 4096 * kind);
                        }
                    }
                }
            }
            return all;
        }

        Pos after(int move) {
            return after(move % 64, move / 64 % 64, move / 4096);
        }

        long lines(int depth) {
            if (depth == 0) {
                return 1;
            }
            long sum = 0;
            for (int move : legal()) {
                sum += after(move).lines(depth - 1);
            }
            return sum;
        }
    }

    private Pos now = new Pos();
    private final Deque<Pos> before = new ArrayDeque<>();
    private final Deque<Integer> made = new ArrayDeque<>();

    private void forget() {
        before.clear();
        made.clear();
    }

    void clear() {
        now = new Pos();
        forget();
    }

    void begin() {
        clear();
        int[] row = {4, 2, 3, 5, 6, 3, 2, 4};
        for (int f = 0; f < 8; f++) {
            now.men[f] = row[f];
            now.men[f + 8] = 1;
            now.men[f + 48] = 7;
            now.men[f + 56] = row[f] + 6;
        }
        now.rights = 15;
    }

    void put(int square, int piece) {
        if (square < 0 || square > 63) {
            throw new IndexOutOfBoundsException();
        }
        if (piece < 0 || piece > 12) {
            throw new IllegalArgumentException();
        }
        now.men[square] = piece;
        forget();
    }

    void state(int side, int rights, int passing) {
        if (side < 0 || side > 1 || rights < 0 || rights > 15 || passing < -1 || passing > 63) {
            throw new IllegalArgumentException();
        }
        now.side = side;
        now.rights = rights;
        now.passing = passing;
        forget();
    }

    boolean playable() {
        return now.playable();
    }

    List<Integer> list() {
        if (!now.playable()) {
            throw new IllegalStateException();
        }
        return now.legal();
    }

    int count() {
        return list().size();
    }

    int move(int i) {
        List<Integer> all = list();
        if (i < 0 || i >= all.size()) {
            throw new IndexOutOfBoundsException();
        }
        return all.get(i);
    }

    int place(int move) {
        return list().indexOf(move);
    }

    int on(int square, boolean which) {
        int n = 0;
        for (int move : list()) {
            if ((which ? move % 64 : move / 64 % 64) == square) {
                n++;
            }
        }
        return n;
    }

    int kind(int move) {
        if (!list().contains(move)) {
            throw new IllegalArgumentException();
        }
        int from = move % 64;
        int to = move / 64 % 64;
        Pos p = now.after(move);
        int sum = now.men[to] != 0 || now.inPassing(from, to) ? 1 : 0;
        sum += now.inPassing(from, to) ? 2 : 0;
        sum += now.castling(from, to) ? 4 : 0;
        sum += move / 4096 != 0 ? 8 : 0;
        sum += p.attackedBy(now.side, p.king(p.side)) ? 16 : 0;
        sum += p.legal().isEmpty() ? 32 : 0;
        return sum;
    }

    long lines(int depth) {
        list();
        if (depth < 0 || depth > 3) {
            throw new IllegalArgumentException();
        }
        return now.lines(depth);
    }

    int make(int move) {
        if (!list().contains(move)) {
            throw new IllegalArgumentException();
        }
        if (made.size() == 200) {
            throw new UnsupportedOperationException();
        }
        before.push(now);
        made.push(move);
        now = now.after(move);
        return now.legal().size();
    }

    int unmake() {
        if (made.isEmpty()) {
            return NONE;
        }
        now = before.pop();
        return made.pop();
    }

    int at(int square) {
        return square < 0 || square > 63 ? NONE : now.men[square];
    }

    boolean check() {
        list();
        return now.attackedBy(1 - now.side, now.king(now.side));
    }

    /** Each piece is taken away by itself: pinned if then a bishop, rook or queen attacks that did not. */
    long pinned() {
        list();
        int king = now.king(now.side);
        long sum = 0;
        for (int s = 0; s < 64; s++) {
            if (now.owner(s) != now.side || s == king) {
                continue;
            }
            Pos p = now.copy();
            p.men[s] = 0;
            for (int a = 0; a < 64; a++) {
                boolean far = now.owner(a) == 1 - now.side && now.type(a) >= 3 && now.type(a) <= 5;
                if (far && !now.attacks(a, king) && p.attacks(a, king)) {
                    sum |= 1L << s;
                }
            }
        }
        return sum;
    }

    int look(int which) {
        int[] all = {now.side, now.rights, now.passing, made.size()};
        return which < 0 || which > 3 ? NONE : all[which];
    }
}
