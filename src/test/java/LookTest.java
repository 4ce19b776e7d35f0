/** Promises 6 to 9: what there is. The boards and answers are those of the shared tests. */
public final class LookTest {
    public static void main(String[] args) {
        about();
        tile();
        player();
        playerOnTheWay();
        playerWithAll();
        setting();
        Check.end();
    }

    private static final String[] ABOUT = {
        "the players, 0 without a game", "whose turn it is, NONE if the game is over",
        "1 if a line has been shifted in this turn, otherwise 0", "the turns that have ended",
        "1 if the game is over, otherwise 0",
        "who has won, NONE if nobody has (1 to 4 are 0 without a game, 5 is NONE)"};

    private static final String[] PLAYER = {
        "the place of the ship", "the treasures taken, how many",
        "the treasure that is sought now, NONE if all five are taken",
        "the place where that is, NONE likewise", "the line that is locked, NONE without one",
        "the line of the latest shift of this board, NONE without one",
        "its direction, NONE likewise", "the places that the ship can reach, as a set",
        "1 if the sought treasure is at one of these, otherwise 0"};

    private static void abouts(String when, ShiftIsles x, int... due) {
        for (int what = 0; what < 6; what++) {
            Check.sentence(ABOUT[what]);
            Check.eq("about(" + what + ") " + when, x.about(what), due[what]);
        }
    }

    private static void about() {
        ShiftIsles x = new ShiftIsles();
        abouts("without a game", x, 0, 0, 0, 0, 0, -1);
        Check.sentence("Throws IllegalArgumentException if what is not 0 to 5");
        Check.fails("about(-1)", x, Check.ARGUMENT, () -> x.about(-1));
        Check.fails("about(6)", x, Check.ARGUMENT, () -> x.about(6));
        x.begin(3, 2026);
        abouts("at the beginning", x, 3, 0, 0, 0, 0, -1);
        x.shift(1, 0, 1);
        abouts("in the turn", x, 3, 0, 1, 0, 0, -1);
        x.go(3);
        abouts("behind a turn", x, 3, 1, 0, 1, 0, -1);
        x.play();
        x.play();
        abouts("behind three turns", x, 3, 0, 0, 3, 0, -1);
        x.begin(3, 2026);
        x.set(1, 1);
        Check.eq("play()", x.play(), 5);
        abouts("when it is over", x, 3, -1, 0, 1, 1, 0);
        Check.fails("about(6)", x, Check.ARGUMENT, () -> x.about(6));
        x.begin(2, 5);
        abouts("in the next game", x, 2, 0, 0, 0, 0, -1);
        x.set(2, 1);
        x.play();
        abouts("when it is over without a winner", x, 2, -1, 0, 1, 1, -1);
    }

    private static void tile() {
        ShiftIsles x = new ShiftIsles();
        Check.fails("tile(0, 0, 0) without a game", x, Check.BOUNDS, () -> x.tile(0, 0, 0));
        x.begin(3, 2026);
        Check.sentence("its openings; 1: its treasure, 0 without one; 2: 1 if the ship is there, otherwise 0");
        Check.same("board 0", Look.board(x, 0), "13/0 2/0 14/3 14/4 9/5S 1/2 8/1 15/0 8/0");
        Check.same("board 1", Look.board(x, 1), "10/5 4/0 6/0 11/0 2/4S 8/1 5/2 10/0 15/3");
        Check.same("board 2", Look.board(x, 2), "8/0 13/0 10/3 12/5 13/0S 7/4 1/1 7/0 8/2");
        Check.sentence("Throws IndexOutOfBoundsException if there is no such player or place");
        Check.fails("player 3", x, Check.BOUNDS, () -> x.tile(3, 0, 0));
        Check.fails("player -1", x, Check.BOUNDS, () -> x.tile(-1, 0, 0));
        Check.fails("place 9", x, Check.BOUNDS, () -> x.tile(0, 9, 0));
        Check.fails("place -1", x, Check.BOUNDS, () -> x.tile(0, -1, 0));
        Check.sentence("Throws IllegalArgumentException if what is not 0 to 2");
        Check.fails("what 3", x, Check.ARGUMENT, () -> x.tile(0, 0, 3));
        Check.fails("what -1", x, Check.ARGUMENT, () -> x.tile(0, 0, -1));
        Check.fails("place and what", x, Check.BOUNDS, () -> x.tile(0, 9, 3));
        Check.fails("player and what", x, Check.BOUNDS, () -> x.tile(3, 0, 3));
        x.play();
        Check.same("board 0 without the treasure", Look.board(x, 0),
                "13/0 2/0 14/3 14/4 9/0S 1/2 8/1 15/0 8/0");
    }

    private static void players(ShiftIsles x, int p, int... due) {
        for (int what = 0; what < 9; what++) {
            Check.sentence(PLAYER[what]);
            Check.eq("player(" + p + ", " + what + ")", x.player(p, what), due[what]);
        }
    }

    private static void player() {
        ShiftIsles x = new ShiftIsles();
        Check.fails("player(0, 0) without a game", x, Check.BOUNDS, () -> x.player(0, 0));
        x.begin(3, 2026);
        players(x, 0, 4, 0, 5, 4, -1, -1, -1, 24, 1);
        players(x, 1, 4, 0, 5, 0, -1, -1, -1, 48, 0);
        players(x, 2, 4, 0, 1, 6, -1, -1, -1, 402, 0);
        Check.sentence("Throws IndexOutOfBoundsException if there is no such player");
        Check.fails("player 3", x, Check.BOUNDS, () -> x.player(3, 0));
        Check.fails("player -1", x, Check.BOUNDS, () -> x.player(-1, 0));
        Check.sentence("Throws IllegalArgumentException if what is not 0 to 8");
        Check.fails("what 9", x, Check.ARGUMENT, () -> x.player(0, 9));
        Check.fails("what -1", x, Check.ARGUMENT, () -> x.player(0, -1));
        Check.fails("player and what", x, Check.BOUNDS, () -> x.player(3, 9));
    }

    private static void playerOnTheWay() {
        ShiftIsles x = Look.game(3, 2026);
        Check.eq("shift(2, 1, 1)", x.shift(2, 1, 1), 1);
        players(x, 2, 5, 0, 1, 6, -1, 1, 1, 32, 0);
        Check.sentence("the treasures taken, how many");
        Check.eq("go(4)", x.go(4), 5);
        Check.eq("taken", x.player(0, 1), 1);
        Check.eq("another is sought", x.player(0, 2) == 5 ? 1 : 0, 0);
        x.shift(0, 3, 0);
        Check.eq("lock(2)", x.lock(2), 2);
        Check.eq("locked", x.player(1, 4), 2);
        Check.eq("latest line", x.player(0, 5), 3);
        Check.eq("its direction", x.player(0, 6), 0);
        x.begin(3, 2026);
        players(x, 2, 4, 0, 1, 6, -1, -1, -1, 402, 0);
        Check.sentence("the places that the ship can reach, as a set");
        x.set(0, 1);
        Check.eq("places with one step", x.player(2, 7), 146);
        x.set(0, 2);
        Check.eq("places with two steps", x.player(2, 7), 402);
    }

    /** A player who has all five treasures, with friendly shifts of the others, seeks none. */
    private static void playerWithAll() {
        int found = 0;
        for (long seed = 0; seed < 20; seed++) {
            ShiftIsles x = Look.game(2, seed);
            x.set(0, 9);
            x.set(1, 5);
            x.set(2, 200);
            for (int turn = 0; turn < 60 && x.about(4) == 0; turn++) {
                Look.kind(x);
            }
            int p = x.about(5);
            if (p >= 0) {
                found++;
                Check.sentence("NONE if all five are taken");
                Check.eq("taken", x.player(p, 1), 5);
                Check.eq("sought", x.player(p, 2), -1);
                Check.eq("its place", x.player(p, 3), -1);
                Check.eq("in reach", x.player(p, 8), 0);
                Check.eq("in reach if shifted", x.ifShifted(p, 0, 0, 1), 0);
                for (int n = 0; n < 9; n++) {
                    Check.eq("treasure at " + n, x.tile(p, n, 1), 0);
                }
            }
        }
        Check.yes("games with all treasures: " + found, found >= 3);
    }

    private static void setting() {
        ShiftIsles x = new ShiftIsles();
        Check.sentence("Returns that setting.");
        Check.eq("steps", x.setting(0), 4);
        Check.eq("treasures", x.setting(1), 3);
        Check.eq("turns", x.setting(2), 60);
        Check.sentence("Throws IllegalArgumentException if what is out of range");
        Check.fails("setting(-1)", x, Check.ARGUMENT, () -> x.setting(-1));
        Check.fails("setting(3)", x, Check.ARGUMENT, () -> x.setting(3));
    }
}
