/**
 * A MoveList that answers in texts: "done" where a call answers nothing, an exception as its simple name
 * behind "throws.". Its calls are counted, as the document promises nothing of those beyond the 512th: a
 * test that looks at one of them is itself wrong.
 */
final class Game {
    static final String DONE = "done";
    static final String STATE = "throws.IllegalStateException";
    static final String ARGUMENT = "throws.IllegalArgumentException";
    static final String INDEX = "throws.IndexOutOfBoundsException";
    static final String UNSUPPORTED = "throws.UnsupportedOperationException";
    static final int MOST_CALLS = 512;

    private final MoveList x = new MoveList();
    private int calls = 0;

    private void counted() {
        calls++;
        if (calls > MOST_CALLS) {
            throw new AssertionError("this test asks for more than " + MOST_CALLS + " calls on one object");
        }
    }

    /** How many calls the document still promises. */
    int left() {
        return MOST_CALLS - calls;
    }

    String clear() {
        counted();
        return Check.answer(() -> x.clear());
    }

    String begin() {
        counted();
        return Check.answer(() -> x.begin());
    }

    String put(int square, int piece) {
        counted();
        return Check.answer(() -> x.put(square, piece));
    }

    String put(String square, int piece) {
        return put(Setup.square(square), piece);
    }

    String state(int side, int rights, int passing) {
        counted();
        return Check.answer(() -> x.state(side, rights, passing));
    }

    String playable() {
        counted();
        return Check.answer(() -> (Object) x.playable());
    }

    String count() {
        counted();
        return Check.answer(() -> (Object) x.count());
    }

    String move(int i) {
        counted();
        return Check.answer(() -> (Object) x.move(i));
    }

    String place(int move) {
        counted();
        return Check.answer(() -> (Object) x.place(move));
    }

    String place(String move) {
        return place(Setup.move(move));
    }

    boolean legal(int move) {
        return !place(move).equals("-1");
    }

    boolean legal(String move) {
        return legal(Setup.move(move));
    }

    String on(int square, boolean which) {
        counted();
        return Check.answer(() -> (Object) x.on(square, which));
    }

    String from(String square) {
        return on(Setup.square(square), true);
    }

    String to(String square) {
        return on(Setup.square(square), false);
    }

    String kind(int move) {
        counted();
        return Check.answer(() -> (Object) x.kind(move));
    }

    String kind(String move) {
        return kind(Setup.move(move));
    }

    String lines(int depth) {
        counted();
        return Check.answer(() -> (Object) x.lines(depth));
    }

    String make(int move) {
        counted();
        return Check.answer(() -> (Object) x.make(move));
    }

    String make(String move) {
        return make(Setup.move(move));
    }

    String unmake() {
        counted();
        return Check.answer(() -> (Object) x.unmake());
    }

    String at(int square) {
        counted();
        return Check.answer(() -> (Object) x.at(square));
    }

    /** The pieces on some squares, with blanks between. */
    String at(String squares) {
        StringBuilder all = new StringBuilder();
        for (String name : squares.split(" ")) {
            all.append(all.length() == 0 ? "" : " ").append(at(Setup.square(name)));
        }
        return all.toString();
    }

    String check() {
        counted();
        return Check.answer(() -> (Object) x.check());
    }

    String pinned() {
        counted();
        return Check.answer(() -> (Object) x.pinned());
    }

    String look(int which) {
        counted();
        return Check.answer(() -> (Object) x.look(which));
    }

    /** The parts of a sum that are asked for; an exception stays what it is. */
    static String parts(String answer, int mask) {
        return answer.startsWith("throws") ? answer : String.valueOf(Integer.parseInt(answer) & mask);
    }

    /** SIDE, RIGHTS, PASSING and how many moves can be taken back. */
    String looks() {
        return look(0) + " " + look(1) + " " + look(2) + " " + look(3);
    }

    /** The game itself, with moves made on it. */
    Game played(String... moves) {
        for (String move : moves) {
            String answer = make(move);
            if (answer.startsWith("throws")) {
                throw new AssertionError(move + " can not be made: " + answer);
            }
        }
        return this;
    }

    /** The board and the state: what can be seen without a position that can be PLAYED. */
    String seen() {
        StringBuilder all = new StringBuilder();
        for (int s = 0; s < 64; s++) {
            all.append(at(s)).append(s % 8 == 7 ? " / " : " ");
        }
        return all.append(looks()).toString();
    }

    /** All moves of the LIST, in order; the exception if there is no LIST. */
    String list() {
        String count = count();
        if (count.startsWith("throws")) {
            return count;
        }
        StringBuilder all = new StringBuilder(count).append(':');
        for (int i = 0; i < Integer.parseInt(count); i++) {
            all.append(' ').append(move(i));
        }
        return all.toString();
    }

    /** All that can be asked, and that again behind all moves that can be taken back. */
    String everything() {
        StringBuilder all = new StringBuilder(asked());
        int made = Integer.parseInt(look(3));
        for (int i = 0; i <= made; i++) {
            all.append(" unmake ").append(unmake());
        }
        if (made == 0) {
            return all.toString();
        }
        // Behind very many moves too few calls are left to ask for all once more.
        return all.append(" then ").append(made > 100 ? looks() : asked()).toString();
    }

    private String asked() {
        return seen() + " " + playable() + " " + check() + " " + pinned() + " " + lines(2) + " " + list();
    }
}
