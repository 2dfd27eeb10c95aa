/** Games that stand in some way; each call makes a new one. */
final class Standings {
    // Taking in passing, a capture that becomes a queen, and castling of both, before the knights go to and fro.
    private static final String[] OPENING = {"e2e4", "a7a6", "e4e5", "d7d5", "e5d6", "b8c6", "d6c7", "g8f6", "c7d8q", "c6d8",
        "g1f3", "e7e6", "f1e2", "f8e7", "e1g1", "e8g8"};
    private static final String[] ROUND = {"b1c3", "f6d7", "c3b1", "d7f6"};

    private Standings() {
    }

    static String moveOf(int i) {
        return i < OPENING.length ? OPENING[i] : ROUND[(i - OPENING.length) % ROUND.length];
    }

    /** A game from its beginning, with so many moves made. */
    static Game made(int moves) {
        Game x = new Game();
        x.begin();
        for (int i = 0; i < moves; i++) {
            x.played(moveOf(i));
        }
        return x;
    }
}
