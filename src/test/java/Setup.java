/** Positions written the usual way (FEN), and moves as e2e4 or e7e8q. */
final class Setup {
    private Setup() {
    }

    static Game of(String fen) {
        Game x = new Game();
        String[] parts = fen.split(" ");
        int rank = 7;
        int file = 0;
        for (char c : parts[0].toCharArray()) {
            if (c == '/') {
                rank--;
                file = 0;
            } else if (Character.isDigit(c)) {
                file += c - '0';
            } else {
                x.put(8 * rank + file, 1 + "PNBRQKpnbrqk".indexOf(c));
                file++;
            }
        }
        int rights = 0;
        for (char c : parts[2].toCharArray()) {
            rights += c == '-' ? 0 : 1 << "KQkq".indexOf(c);
        }
        x.state(parts[1].equals("w") ? 0 : 1, rights, parts[3].equals("-") ? MoveList.NONE : square(parts[3]));
        return x;
    }

    static int square(String name) {
        return name.charAt(0) - 'a' + 8 * (name.charAt(1) - '1');
    }

    static int move(String name) {
        int kind = name.length() > 4 ? 2 + "nbrq".indexOf(name.charAt(4)) : 0;
        return square(name.substring(0, 2)) + 64 * square(name.substring(2, 4)) + 4096 * kind;
    }
}
