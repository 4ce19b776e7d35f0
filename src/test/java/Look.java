/** What can be seen of an object without changing it, and short ways to bring one somewhere. */
final class Look {
    private Look() {
    }

    static String at(ShiftIsles x) {
        StringBuilder seen = new StringBuilder();
        seen.append("text ").append(x.errorPosition());
        for (int what = 0; what < 6; what++) {
            seen.append(" about ").append(x.about(what));
        }
        for (int what = 0; what < 3; what++) {
            seen.append(" setting ").append(x.setting(what));
        }
        for (int p = 0; p < x.about(0); p++) {
            for (int what = 0; what < 9; what++) {
                seen.append(" player ").append(x.player(p, what));
            }
            seen.append(' ').append(board(x, p));
        }
        return seen.toString();
    }

    /** The openings, treasures and the ship of a board. */
    static String board(ShiftIsles x, int p) {
        StringBuilder seen = new StringBuilder();
        for (int n = 0; n < 9; n++) {
            seen.append(x.tile(p, n, 0)).append('/').append(x.tile(p, n, 1));
            seen.append(x.tile(p, n, 2) == 1 ? "S " : " ");
        }
        return seen.toString().trim();
    }

    static ShiftIsles game(int players, long seed) {
        ShiftIsles x = new ShiftIsles();
        x.begin(players, seed);
        return x;
    }

    static ShiftIsles text(String text) {
        ShiftIsles x = new ShiftIsles();
        write(x, text);
        return x;
    }

    static void write(ShiftIsles x, String text) {
        for (int i = 0; i < text.length(); i++) {
            x.append(text.charAt(i));
        }
    }

    static ShiftIsles loaded(String text) {
        ShiftIsles x = text(text);
        x.load();
        return x;
    }

    static int bit(int set, int n) {
        return set >> n & 1;
    }
}
