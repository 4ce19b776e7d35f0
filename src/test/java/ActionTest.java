/** Promises 10 to 16: the actions, and taking them back. */
public final class ActionTest {
    public static void main(String[] args) {
        begin();
        beginDraws();
        shiftMovesTiles();
        shiftFails();
        shiftNotTakenBack();
        go();
        goTakesInOrder();
        lock();
        lockEnds();
        ends();
        play();
        playGoes();
        set();
        undo();
        undoOfEach();
        Check.end();
    }

    private static void begin() {
        ShiftIsles x = new ShiftIsles();
        Check.sentence("Throws IllegalArgumentException if players is out of range");
        Check.fails("begin(1, 0)", x, Check.ARGUMENT, () -> x.begin(1, 0));
        Check.fails("begin(5, 0)", x, Check.ARGUMENT, () -> x.begin(5, 0));
        Check.fails("begin(-1, 0)", x, Check.ARGUMENT, () -> x.begin(-1, 0));
        Check.fails("undo()", Check.STATE, x::undo);
        x.set(0, 7);
        x.set(1, 1);
        Check.sentence("Returns the treasure that the player 0 seeks.");
        Check.eq("begin(3, 2026)", x.begin(3, 2026), 5);
        Check.eq("begin(2, 5)", x.begin(2, 5), 1);
        Check.sentence("Begins a new game, whatever there is; the settings stay.");
        Check.eq("the settings stay", x.setting(0) * 10 + x.setting(1), 71);
        x.shift(1, 0, 1);
        x.lock(2);
        x.play();
        String before = Look.at(x);
        Check.fails("begin(5, 5)", x, Check.ARGUMENT, () -> x.begin(5, 5));
        Check.eq("begin(2, 5) again", x.begin(2, 5), 1);
        ShiftIsles y = Look.game(2, 5);
        y.set(0, 7);
        y.set(1, 1);
        Check.same("whatever there was", Look.at(x), Look.at(y));
        x.undo();
        Check.sentence("Before each action, the state is remembered.");
        Check.same("begin() is taken back", Look.at(x), before);
        beginAnyTime();
    }

    private static void beginAnyTime() {
        Check.sentence("Begins a new game, whatever there is");
        String due = Look.at(Look.game(4, 77));
        ShiftIsles x = Look.game(2, 5);
        x.shift(1, 0, 1);
        x.begin(4, 77);
        Check.same("in a turn", Look.at(x), due);
        x.play();
        x.begin(4, 77);
        Check.same("in another's turn", Look.at(x), due);
        x.set(1, 1);
        while (x.about(5) < 0) {
            x.shift(1 - Math.min(1, x.about(1)), 0, 1);
            x.go(x.player(x.about(1), x.player(x.about(1), 8) == 1 ? 3 : 0));
        }
        x.set(1, 3);
        x.begin(4, 77);
        Check.same("when one has won", Look.at(x), due);
    }

    /** The new game, drawn here once more, for seeds of all kinds. */
    private static void beginDraws() {
        long[] seeds = {0, 1, 99, -1, Long.MIN_VALUE, Long.MAX_VALUE, 123456789012345L};
        for (long seed : seeds) {
            for (int players = 2; players <= 4; players++) {
                draws(players, seed);
            }
        }
    }

    private static long x;

    private static int draw(int n) {
        x = x * 6364136223846793005L + 1442695040888963407L;
        return (int) (x >>> 33) % n;
    }

    private static void draws(int players, long seed) {
        ShiftIsles made = new ShiftIsles();
        int first = made.begin(players, seed);
        x = seed;
        for (int p = 0; p < players; p++) {
            int[] openings = new int[9];
            int[] treasures = new int[9];
            for (int n = 0; n < 9; n++) {
                openings[n] = 1 + draw(15);
            }
            for (int treasure = 1; treasure <= 5; treasure++) {
                int n = draw(9);
                while (treasures[n] != 0) {
                    n = (n + 1) % 9;
                }
                treasures[n] = treasure;
            }
            int[] order = {1, 2, 3, 4, 5};
            for (int i = 4; i >= 1; i--) {
                int j = draw(i + 1);
                int kept = order[i];
                order[i] = order[j];
                order[j] = kept;
            }
            for (int n = 0; n < 9; n++) {
                Check.eq("openings", made.tile(p, n, 0), openings[n]);
                Check.eq("treasure", made.tile(p, n, 1), treasures[n]);
                Check.eq("ship", made.tile(p, n, 2), n == 4 ? 1 : 0);
            }
            Check.eq("sought", made.player(p, 2), order[0]);
            Check.eq("locked", made.player(p, 4), -1);
            if (p == 0) {
                Check.eq("begin()", first, order[0]);
            }
        }
    }

    /** Where the tiles of the places 0 to 8 are behind a shift of each line forwards. */
    private static final String[] FORWARDS = {
        "120345678", "012453678", "012345786", "312645078", "042375618", "015348672"};

    private static void shiftMovesTiles() {
        for (int line = 0; line < 6; line++) {
            for (int direction = 0; direction < 2; direction++) {
                ShiftIsles x = Look.game(2, 40 + line);
                String[] before = Look.board(x, 1).split(" ");
                String own = Look.board(x, 0);
                int answer = x.shift(1, line, direction);
                String[] after = Look.board(x, 1).split(" ");
                for (int n = 0; n < 9; n++) {
                    int to = FORWARDS[line].charAt(n) - '0';
                    if (direction == 1) {
                        Check.same("tile " + n + " of line " + line, after[to], before[n]);
                    } else {
                        Check.same("tile " + n + " of line " + line, after[n], before[to]);
                    }
                }
                Check.sentence("Returns the places that the ship of p can reach then, how many.");
                Check.eq("shift()", answer, Integer.bitCount(x.player(1, 7)));
                Check.sentence("The player whose turn it is shifts a line.");
                Check.same("the own board", Look.board(x, 0), own);
                Check.eq("line", x.player(1, 5), line);
                Check.eq("direction", x.player(1, 6), direction);
                Check.eq("line of the own board", x.player(0, 5), -1);
                Check.eq("shifted", x.about(2), 1);
                Check.eq("still the turn", x.about(1), 0);
            }
        }
    }

    private static void shiftFails() {
        ShiftIsles x = new ShiftIsles();
        Check.sentence("Throws IndexOutOfBoundsException if there is no such player or line");
        Check.fails("shift() without a game", x, Check.BOUNDS, () -> x.shift(1, 0, 0));
        x.begin(3, 2026);
        Check.fails("player 3", x, Check.BOUNDS, () -> x.shift(3, 0, 0));
        Check.fails("player -1", x, Check.BOUNDS, () -> x.shift(-1, 0, 0));
        Check.fails("line 6", x, Check.BOUNDS, () -> x.shift(1, 6, 0));
        Check.fails("line -1", x, Check.BOUNDS, () -> x.shift(1, -1, 0));
        Check.fails("line 6, direction 2", x, Check.BOUNDS, () -> x.shift(1, 6, 2));
        Check.sentence("Throws IllegalArgumentException if direction is out of range");
        Check.fails("direction 2", x, Check.ARGUMENT, () -> x.shift(1, 0, 2));
        Check.fails("direction -1", x, Check.ARGUMENT, () -> x.shift(1, 0, -1));
        Check.fails("own board, direction 2", x, Check.ARGUMENT, () -> x.shift(0, 0, 2));
        Check.sentence("Throws IllegalStateException if the game is over, a line has been shifted in"
                + " this turn, it is the own board, or the shift is not possible");
        Check.fails("own board", x, Check.STATE, () -> x.shift(0, 0, 0));
        x.shift(1, 0, 0);
        Check.fails("a second one", x, Check.STATE, () -> x.shift(2, 0, 0));
        Check.fails("a second one, line 6", x, Check.BOUNDS, () -> x.shift(2, 6, 0));
        x.set(1, 1);
        x.go(4);
        Check.eq("over", x.about(4), 1);
        Check.fails("over", x, Check.STATE, () -> x.shift(2, 0, 0));
        Check.fails("over, board of the winner", x, Check.STATE, () -> x.shift(0, 0, 0));
        Check.fails("over, direction 2", x, Check.ARGUMENT, () -> x.shift(2, 0, 2));
        Check.fails("over, player 3", x, Check.BOUNDS, () -> x.shift(3, 0, 2));
        Check.eq("what is remembered", x.undo(), 3);
    }

    private static void shiftNotTakenBack() {
        ShiftIsles x = Look.game(3, 9);
        x.shift(2, 3, 1);
        x.go(4);
        Check.no("canShift(2, 3, 0)", x.canShift(2, 3, 0));
        Check.yes("canShift(2, 3, 1)", x.canShift(2, 3, 1));
        Check.yes("canShift(0, 3, 0)", x.canShift(0, 3, 0));
        Check.fails("back at once", x, Check.STATE, () -> x.shift(2, 3, 0));
        x.shift(0, 3, 1);
        x.go(4);
        Check.fails("the own board", x, Check.STATE, () -> x.shift(2, 3, 0));
        x.shift(0, 3, 1);
        x.go(4);
        Check.fails("back later, nothing between", x, Check.STATE, () -> x.shift(2, 3, 0));
        x.shift(2, 1, 0);
        x.go(4);
        Check.no("the new one taken back", x.canShift(2, 1, 1));
        Check.yes("the old one taken back", x.canShift(2, 3, 0));
        x.shift(2, 3, 0);
        Check.eq("line", x.player(2, 5), 3);
        Check.eq("direction", x.player(2, 6), 0);
        Check.no("canShift(2, 3, 1)", x.canShift(2, 3, 1));
    }

    private static void go() {
        ShiftIsles x = new ShiftIsles();
        Check.sentence("Throws IllegalStateException if there is no game, it is over, no line has been"
                + " shifted in this turn, or the ship cannot go there");
        Check.fails("go(0) without a game", x, Check.STATE, () -> x.go(0));
        Check.fails("go(9) without a game", x, Check.BOUNDS, () -> x.go(9));
        x.begin(3, 2026);
        Check.fails("before a shift", x, Check.STATE, () -> x.go(4));
        Check.fails("before a shift, place -1", x, Check.BOUNDS, () -> x.go(-1));
        x.shift(1, 0, 1);
        Check.fails("place 9", x, Check.BOUNDS, () -> x.go(9));
        Check.fails("place -1", x, Check.BOUNDS, () -> x.go(-1));
        for (int n = 0; n < 9; n++) {
            int to = n;
            if (n != 3 && n != 4) {
                Check.fails("go(" + n + ")", x, Check.STATE, () -> x.go(to));
            }
        }
        Check.sentence("The player whose turn it is goes with the ship, or stays; the turn ends.");
        // At the place 3 there is the treasure 4, but 5 is sought.
        Check.eq("go(3)", x.go(3), 0);
        Check.eq("the ship", x.player(0, 0), 3);
        Check.eq("taken", x.player(0, 1), 0);
        Check.eq("the treasure is still there", x.tile(0, 3, 1), 4);
        Check.eq("the turn", x.about(1), 1);
        Check.sentence("Returns the treasure that is taken; 0 if none is.");
        ShiftIsles z = Look.game(3, 2026);
        z.set(1, 1);
        z.shift(1, 0, 1);
        Check.eq("go(4)", z.go(4), 5);
        Check.eq("won", z.about(5), 0);
        Check.fails("over", z, Check.STATE, () -> z.go(4));
        Check.fails("over, place 9", z, Check.BOUNDS, () -> z.go(9));
        ShiftIsles y = Look.game(3, 2026);
        y.shift(1, 0, 1);
        Check.eq("to stay can take as well", y.go(4), 5);
        Check.eq("no treasure there now", y.tile(0, 4, 1), 0);
        Check.eq("taken", y.player(0, 1), 1);
        y.set(0, 1);
        y.shift(0, 0, 0);
        y.go(5);
        y.shift(0, 0, 0);
        Check.fails("two steps, with one a turn", y, Check.STATE, () -> y.go(8));
        y.set(0, 2);
        Check.eq("two steps", y.go(8), 0);
        Check.eq("the ship", y.player(2, 0), 8);
    }

    /** The treasures are taken one after the other, and always the one that is sought. */
    private static void goTakesInOrder() {
        for (long seed = 0; seed < 20; seed++) {
            ShiftIsles x = Look.game(2, seed);
            x.set(0, 9);
            x.set(1, 5);
            x.set(2, 200);
            boolean[][] gone = new boolean[2][6];
            while (x.about(4) == 0) {
                int p = x.about(1);
                int sought = x.player(p, 2);
                Check.no("sought twice", gone[p][sought]);
                int place = x.player(p, 3);
                boolean near = x.player(p, 8) == 1;
                int had = x.player(p, 1);
                int taken = x.play();
                Check.eq("taken", taken, near ? sought : 0);
                Check.eq("count", x.player(p, 1), had + (near ? 1 : 0));
                Check.eq("sought still", x.player(p, 2) == sought ? 1 : 0, near ? 0 : 1);
                if (near) {
                    gone[p][sought] = true;
                    Check.eq("the ship", x.player(p, 0), place);
                    Check.eq("on no tile any more", x.tile(p, place, 1), 0);
                }
            }
        }
    }

    private static void lock() {
        ShiftIsles x = new ShiftIsles();
        Check.sentence("Throws IllegalStateException if there is no game, it is over, or no line has"
                + " been shifted in this turn");
        Check.fails("lock(0) without a game", x, Check.STATE, () -> x.lock(0));
        Check.fails("lock(6) without a game", x, Check.BOUNDS, () -> x.lock(6));
        x.begin(3, 2026);
        Check.fails("before a shift", x, Check.STATE, () -> x.lock(0));
        Check.fails("before a shift, line -1", x, Check.BOUNDS, () -> x.lock(-1));
        x.shift(1, 0, 1);
        Check.fails("line 6", x, Check.BOUNDS, () -> x.lock(6));
        Check.fails("line -1", x, Check.BOUNDS, () -> x.lock(-1));
        Check.sentence("Returns whose turn it is then, NONE if the game is over.");
        Check.eq("lock(2)", x.lock(2), 1);
        Check.sentence("The player whose turn it is locks a line of the own board; the turn ends.");
        Check.eq("locked", x.player(0, 4), 2);
        Check.eq("ended", x.about(3), 1);
        Check.eq("the ship stays", x.player(0, 0), 4);
        Check.eq("nothing is taken", x.player(0, 1), 0);
        Check.no("canShift(0, 2, 0)", x.canShift(0, 2, 0));
        Check.no("canShift(0, 2, 1)", x.canShift(0, 2, 1));
        Check.yes("canShift(0, 1, 1)", x.canShift(0, 1, 1));
        Check.yes("canShift(2, 2, 1)", x.canShift(2, 2, 1));
        Check.fails("the locked line", x, Check.STATE, () -> x.shift(0, 2, 0));
        Check.fails("the locked line, 1", x, Check.STATE, () -> x.shift(0, 2, 1));
        Check.yes("a column across it", x.canShift(0, 3, 0));
        x.shift(0, 3, 0);
        Check.eq("lock(5)", x.lock(5), 2);
        Check.eq("still locked", x.player(0, 4), 2);
        Check.fails("the locked line", x, Check.STATE, () -> x.shift(1, 5, 1));
        x.shift(1, 1, 1);
        Check.eq("lock(0)", x.lock(0), 0);
        Check.eq("not locked any more", x.player(0, 4), -1);
        Check.eq("locked by 1", x.player(1, 4), 5);
        Check.eq("locked by 2", x.player(2, 4), 0);
        Check.yes("canShift(0, 2, 0)", x.canShift(0, 2, 0));
    }

    private static void lockEnds() {
        ShiftIsles x = Look.game(2, 5);
        x.set(2, 2);
        x.shift(1, 0, 0);
        Check.eq("lock(3)", x.lock(3), 1);
        x.shift(0, 0, 0);
        Check.sentence("Returns whose turn it is then, NONE if the game is over.");
        Check.eq("lock(4)", x.lock(4), -1);
        Check.eq("over", x.about(4), 1);
        Check.eq("nobody has won", x.about(5), -1);
        Check.eq("no next turn of 0 begins", x.player(0, 4), 3);
        Check.eq("locked by 1", x.player(1, 4), 4);
        Check.fails("over", x, Check.STATE, () -> x.lock(0));
        Check.fails("over, line 6", x, Check.BOUNDS, () -> x.lock(6));
    }

    private static void ends() {
        ShiftIsles x = Look.game(3, 2026);
        x.set(1, 1);
        x.set(2, 1);
        Check.eq("play()", x.play(), 5);
        Check.eq("won in the last turn", x.about(5), 0);

        ShiftIsles y = Look.game(3, 2026);
        y.play();
        y.set(1, 1);
        Check.eq("a setting ends nothing", y.about(4), 0);
        y.shift(0, 0, 0);
        y.lock(3);
        Check.eq("only who ends a turn can win", y.about(4), 0);
        y.shift(0, 0, 0);
        y.go(4);
        Check.eq("it is over only then", y.about(4), 0);
        y.shift(1, 0, 0);
        Check.eq("lock(1)", y.lock(1), -1);
        Check.eq("won by locking", y.about(5), 0);
        Check.eq("turns", y.about(3), 4);
        y.set(1, 5);
        Check.eq("a setting begins none again", y.about(4), 1);

        ShiftIsles z = Look.game(2, 5);
        z.play();
        z.play();
        z.set(2, 1);
        Check.eq("a setting ends nothing", z.about(4), 0);
        Check.eq("it is the turn of 0", z.about(1), 0);
        z.shift(1, 0, z.canShift(1, 0, 0) ? 0 : 1);
        Check.eq("nor does a shift", z.about(4), 0);
        z.go(z.player(0, 0));
        Check.eq("the end of the turn does", z.about(4), 1);
        Check.eq("turns", z.about(3), 3);
        z.set(2, 200);
        Check.eq("a setting begins none again", z.about(4), 1);
    }

    private static void play() {
        ShiftIsles x = new ShiftIsles();
        Check.sentence("Throws IllegalStateException if there is no game, or it is over");
        Check.fails("play() without a game", x, Check.STATE, x::play);
        x.begin(3, 2026);
        int p = x.worstShift(0);
        int line = x.worstShift(1);
        int direction = x.worstShift(2);
        Check.sentence("Returns the treasure that is taken; 0 if none is.");
        Check.eq("play()", x.play(), 5);
        Check.sentence("plays by rule what is left of the turn: shifts, if no line has been shifted in"
                + " this turn, and goes.");
        Check.eq("the board", p, 1);
        Check.eq("the line", x.player(p, 5), line);
        Check.eq("the direction", x.player(p, 6), direction);
        Check.eq("ended", x.about(3), 1);
        Check.eq("the turn", x.about(1), 1);
        x.shift(2, 0, 0);
        String others = Look.board(x, 0) + Look.board(x, 2);
        x.play();
        Check.same("no second shift", Look.board(x, 0) + Look.board(x, 2), others);
        Check.eq("ended", x.about(3), 2);
        x.set(2, 3);
        x.play();
        Check.fails("over", x, Check.STATE, x::play);
    }

    /** A player by rule goes to the treasure, or as near to it as possible, at the lowest place. */
    private static void playGoes() {
        for (long seed = 100; seed < 140; seed++) {
            ShiftIsles x = Look.game(2, seed);
            x.set(0, 1 + (int) (seed % 9));
            for (int i = 0; i < 20 && x.about(4) == 0; i++) {
                int p = x.about(1);
                int goal = x.player(p, 3);
                int reach = x.player(p, 7);
                int best = -1;
                for (int n = 8; n >= 0; n--) {
                    if (Look.bit(reach, n) == 1
                            && (best < 0 || apart(n, goal) <= apart(best, goal))) {
                        best = n;
                    }
                }
                x.play();
                Check.eq("the ship", x.player(p, 0), best);
            }
        }
    }

    private static int apart(int a, int b) {
        return Math.abs(a / 3 - b / 3) + Math.abs(a % 3 - b % 3);
    }

    private static void set() {
        ShiftIsles x = new ShiftIsles();
        int[] first = {4, 3, 60};
        int[] most = {9, 5, 200};
        for (int what = 0; what < 3; what++) {
            int w = what;
            Check.sentence("Throws IllegalArgumentException if what or v is out of range");
            Check.fails("too low", x, Check.ARGUMENT, () -> x.set(w, 0));
            Check.fails("negative", x, Check.ARGUMENT, () -> x.set(w, -1));
            Check.fails("too high", x, Check.ARGUMENT, () -> x.set(w, most[w] + 1));
            Check.sentence("Changes a setting.");
            Check.eq("set()", x.set(what, most[what]), first[what]);
            Check.eq("setting()", x.setting(what), most[what]);
            Check.sentence("Returns the previous one.");
            Check.eq("set()", x.set(what, 1), most[what]);
            Check.eq("setting()", x.setting(what), 1);
        }
        Check.fails("set(3, 1)", x, Check.ARGUMENT, () -> x.set(3, 1));
        Check.fails("set(-1, 1)", x, Check.ARGUMENT, () -> x.set(-1, 1));
        Check.eq("what is remembered", x.undo(), 5);
    }

    private static void undo() {
        ShiftIsles x = new ShiftIsles();
        Check.sentence("Takes back the last action that is remembered.");
        Check.fails("undo() at first", x, Check.STATE, x::undo);
        x.set(0, 4);
        Check.eq("undo() of nothing different", x.undo(), 0);
        Check.fails("undo() then", x, Check.STATE, x::undo);
        for (int v = 1; v <= 16; v++) {
            x.set(2, v);
        }
        for (int left = 13; left >= 0; left--) {
            Check.eq("undo()", x.undo(), left);
            Check.eq("setting 2", x.setting(2), left + 2);
        }
        Check.fails("undo() of what is forgotten", x, Check.STATE, x::undo);
        Check.eq("setting 2 then", x.setting(2), 2);
        x.set(2, 100);
        x.set(2, 101);
        Check.eq("undo()", x.undo(), 1);
        x.set(2, 102);
        Check.eq("undo()", x.undo(), 1);
        Check.eq("setting 2", x.setting(2), 100);
        Check.eq("undo()", x.undo(), 0);
        Check.eq("setting 2", x.setting(2), 2);
    }

    private static void undoOfEach() {
        Check.sentence("Before each action, the state is remembered.");
        ShiftIsles x = new ShiftIsles();
        String nothing = Look.at(x);
        x.begin(3, 2026);
        String begun = Look.at(x);
        x.shift(1, 0, 1);
        String shifted = Look.at(x);
        x.go(4);
        String gone = Look.at(x);
        x.shift(0, 4, 1);
        x.lock(3);
        String locked = Look.at(x);
        x.play();
        x.append('I');
        x.save(0);
        String text = "text 1";
        Check.eq("undo() of play()", x.undo(), 5);
        Check.same("before play()", Look.at(x), locked.replace("text 0", text));
        x.undo();
        Check.eq("undo() of shift()", x.undo(), 3);
        Check.same("before", Look.at(x), gone.replace("text 0", text));
        Check.eq("undo() of go()", x.undo(), 2);
        Check.same("before go()", Look.at(x), shifted.replace("text 0", text));
        Check.eq("undo() of shift()", x.undo(), 1);
        Check.same("before shift()", Look.at(x), begun.replace("text 0", text));
        Check.eq("undo() of begin()", x.undo(), 0);
        Check.same("before begin()", Look.at(x), nothing.replace("text 0", text));
        Check.eq("the text is kept", x.clearText(), 1);
        Check.eq("the save slot is kept", x.restore(0), 3);
    }
}
