/** What can be seen of an object without changing it, and short ways to bring one somewhere. */
final class Look {
    private Look() {
    }

    static String at(ShiftIsles x) {
        StringBuilder seen = new StringBuilder();
        seen.append("text ").append(x.errorPosition());
        for (int what = 0; what < 6; what++) {
            seen.append(" about ").append(x.about(what));
        }
        for (int what = 0; what < 3; what++) {
            seen.append(" setting ").append(x.setting(what));
        }
        for (int p = 0; p < x.about(0); p++) {
            for (int what = 0; what < 9; what++) {
                seen.append(" player ").append(x.player(p, what));
            }
            seen.append(' ').append(board(x, p));
        }
        return seen.toString();
    }

    /** The openings, treasures and the ship of a board. */
    static String board(ShiftIsles x, int p) {
        StringBuilder seen = new StringBuilder();
        for (int n = 0; n < 9; n++) {
            seen.append(x.tile(p, n, 0)).append('/').append(x.tile(p, n, 1));
            seen.append(x.tile(p, n, 2) == 1 ? "S " : " ");
        }
        return seen.toString().trim();
    }

    static ShiftIsles game(int players, long seed) {
        ShiftIsles x = new ShiftIsles();
        x.begin(players, seed);
        return x;
    }

    static ShiftIsles text(String text) {
        ShiftIsles x = new ShiftIsles();
        write(x, text);
        return x;
    }

    static void write(ShiftIsles x, String text) {
        for (int i = 0; i < text.length(); i++) {
            x.append(text.charAt(i));
        }
    }

    static ShiftIsles loaded(String text) {
        ShiftIsles x = text(text);
        x.load();
        return x;
    }

    /** What a game must be like. */
    interface Wish {
        boolean holds(ShiftIsles x);
    }

    /** The new game of the lowest seed that is as wished; the wish may not change it. */
    static ShiftIsles seek(int players, String what, Wish wish) {
        for (long seed = 0; seed < 50000; seed++) {
            ShiftIsles x = game(players, seed);
            if (wish.holds(x)) {
                return x;
            }
        }
        throw new AssertionError("no game where " + what);
    }

    /** The player whose turn it is stays where the ship is. */
    static int stay(ShiftIsles x) {
        return x.go(x.player(x.about(1), 0));
    }

    /** A whole turn: the shift, and the ship stays. */
    static int turn(ShiftIsles x, int p, int line, int direction) {
        x.shift(p, line, direction);
        return stay(x);
    }

    /** Some shift that is possible, of the next player's board. */
    static void someShift(ShiftIsles x) {
        int p = (x.about(1) + 1) % x.about(0);
        for (int k = 0; k < 12; k++) {
            if (x.canShift(p, k / 2, k % 2)) {
                x.shift(p, k / 2, k % 2);
                return;
            }
        }
        throw new AssertionError("no shift is possible");
    }

    /** A whole turn in which no treasure is taken. */
    static int idle(ShiftIsles x) {
        someShift(x);
        return x.lock(0);
    }

    /** A whole turn: the next player's board is shifted so that its sought treasure can be taken. */
    static int kind(ShiftIsles x) {
        int p = (x.about(1) + 1) % x.about(0);
        int best = -1;
        for (int k = 0; k < 12; k++) {
            if (x.canShift(p, k / 2, k % 2) && (best < 0 || x.ifShifted(p, k / 2, k % 2, 1) == 1)) {
                best = k;
            }
        }
        x.shift(p, best / 2, best % 2);
        return x.play();
    }

    static int bit(int set, int n) {
        return set >> n & 1;
    }
}
