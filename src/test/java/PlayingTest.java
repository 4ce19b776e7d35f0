/** The section PLAYING of the document, sentence by sentence. */
public final class PlayingTest {
    public static void main(String[] args) {
        treasureBeforeTiles();
        fewestTiles();
        ties();
        onlyPossibleOnes();
        withStepsOfTheSetting();
        goesToTreasure();
        goesNearest();
        lowestPlace();
        staysIfNearest();
        noSecondShift();
        Check.end();
    }

    /** What a shift leaves to the player of the board: 10 for the treasure, and 1 for each tile. */
    private static int left(ShiftIsles x, int p, int k) {
        Chart chart = new Chart(x, p).shifted(k / 2, k % 2);
        int reach = chart.reach(x.setting(0));
        int treasure = chart.placeOf(x.player(p, 2));
        boolean near = treasure >= 0 && Look.bit(reach, treasure) == 1;
        return (near ? 10 : 0) + Integer.bitCount(reach);
    }

    private static int chosen(ShiftIsles x) {
        return 12 * x.worstShift(0) + 2 * x.worstShift(1) + x.worstShift(2);
    }

    private static int fewestTilesOf(ShiftIsles x, int p) {
        int least = 1000;
        for (int k = 0; k < 12; k++) {
            least = Math.min(least, left(x, p, k) % 10);
        }
        return least;
    }

    private static int leastLeft(ShiftIsles x, int p) {
        int least = 1000;
        for (int k = 0; k < 12; k++) {
            least = Math.min(least, left(x, p, k));
        }
        return least;
    }

    private static void treasureBeforeTiles() {
        Check.sentence("can take the sought treasure as little as possible (not at all, rather than at once)");
        ShiftIsles x = Look.seek(2, "the fewest tiles leave the treasure", y ->
                leastLeft(y, 1) < 10 && leastLeft(y, 1) > fewestTilesOf(y, 1));
        int k = chosen(x) - 12;
        Check.yes("the treasure is not left", left(x, 1, k) < 10);
        Check.yes("though more tiles are", left(x, 1, k) > fewestTilesOf(x, 1));
        x.play();
        Check.eq("as it was played", x.player(1, 8), 0);
    }

    private static void fewestTiles() {
        Check.sentence("and then can reach the fewest tiles");
        for (int least = 0; least < 20; least += 10) {
            int treasure = least;
            ShiftIsles x = Look.seek(2, "tiles alone decide", y -> leastLeft(y, 1) / 10 * 10 == treasure
                    && leastLeft(y, 1) % 10 > 2 && first(y, 1) > 0);
            int k = chosen(x) - 12;
            Check.eq("what is left", left(x, 1, k), leastLeft(x, 1));
            int reach = new Chart(x, 1).shifted(k / 2, k % 2).reach(4);
            x.play();
            Check.eq("as it was played", x.player(1, 7), reach);
        }
    }

    /** The first shift of the board that leaves as little as possible. */
    private static int first(ShiftIsles x, int p) {
        for (int k = 0; k < 12; k++) {
            if (left(x, p, k) == leastLeft(x, p)) {
                return k;
            }
        }
        return -1;
    }

    private static void ties() {
        Check.sentence("of several the lowest player");
        ShiftIsles x = Look.seek(3, "the boards 1 and 2 are as bad, and 2 has the lower line", y ->
                leastLeft(y, 1) == leastLeft(y, 2) && first(y, 1) / 2 > first(y, 2) / 2);
        Check.eq("the player", x.worstShift(0), 1);
        ShiftIsles z = Look.seek(4, "the board 3 is worse", y -> leastLeft(y, 3) < leastLeft(y, 1)
                && leastLeft(y, 3) < leastLeft(y, 2));
        Check.eq("not the lowest, if it is better", z.worstShift(0), 3);

        Check.sentence("then the lowest line");
        ShiftIsles l = Look.seek(2, "a later line with 0 is as bad", y -> first(y, 1) % 2 == 1
                && left(y, 1, first(y, 1) + 1) == leastLeft(y, 1));
        Check.eq("the line", l.worstShift(1), first(l, 1) / 2);
        Check.eq("the direction", l.worstShift(2), 1);

        Check.sentence("then the direction 0");
        ShiftIsles d = Look.seek(2, "both directions of a line are as bad", y -> first(y, 1) % 2 == 0
                && left(y, 1, first(y, 1) + 1) == leastLeft(y, 1) && first(y, 1) > 2);
        Check.eq("the line", d.worstShift(1), first(d, 1) / 2);
        Check.eq("the direction", d.worstShift(2), 0);
    }

    private static void onlyPossibleOnes() {
        Check.sentence("of all shifts that are possible");
        ShiftIsles x = Look.seek(2, "only shifts of the line 2 are worst", y -> only(y, 0, 2));
        x.shift(1, 0, 0);
        x.lock(2);
        Check.no("not the locked line", x.worstShift(1) == 2);
        Check.eq("the board", x.worstShift(0), 0);
        int played = chosen(x);
        x.play();
        Check.eq("the line", x.player(0, 5), played / 2);
        Check.eq("the direction", x.player(0, 6), played % 2);

        int found = 0;
        for (long seed = 0; seed < 400 && found < 10; seed++) {
            ShiftIsles y = Look.game(2, seed);
            y.shift(1, 3, 1);
            y.lock(0);
            y.shift(0, 3, 1);
            y.lock(0);
            int k = first(y, 1);
            if (k == 6 || k == 0) {
                found++;
                Check.no("not what is not possible", chosen(y) == 12 + k);
                Check.yes("but what is", y.canShift(1, y.worstShift(1), y.worstShift(2)));
            }
        }
        Check.eq("games in which the worst is not possible", found, 10);

        ShiftIsles z = Look.seek(3, "the own board would be worst", y ->
                leastLeft(y, 0) < leastLeft(y, 1) && leastLeft(y, 0) < leastLeft(y, 2));
        Check.yes("not the own board", z.worstShift(0) > 0);
    }

    private static boolean only(ShiftIsles x, int p, int line) {
        int others = 1000;
        for (int k = 0; k < 12; k++) {
            others = Math.min(others, k / 2 == line ? 1000 : left(x, p, k));
        }
        return leastLeft(x, p) < others;
    }

    private static void withStepsOfTheSetting() {
        Check.sentence("and then can reach the fewest tiles");
        for (int steps = 1; steps <= 9; steps++) {
            for (long seed = 0; seed < 40; seed++) {
                ShiftIsles x = Look.game(3, seed);
                x.set(0, steps);
                int p = leastLeft(x, 2) < leastLeft(x, 1) ? 2 : 1;
                Check.eq("the shift with " + steps, chosen(x), 12 * p + first(x, p));
            }
        }
    }

    private static void goesToTreasure() {
        Check.sentence("Then the player goes to the sought treasure, if the ship can");
        for (int distance = 0; distance <= 4; distance++) {
            int due = distance;
            ShiftIsles x = Look.seek(2, "the treasure is so far",
                    y -> new Chart(y, 0).steps()[y.player(0, 3)] == due);
            int place = x.player(0, 3);
            int sought = x.player(0, 2);
            Check.eq("play()", x.play(), sought);
            Check.eq("the ship", x.player(0, 0), place);
            if (distance > 1) {
                ShiftIsles z = Look.seek(2, "the treasure is so far",
                        y -> new Chart(y, 0).steps()[y.player(0, 3)] == due);
                z.set(0, distance - 1);
                Check.eq("play() with a step too few", z.play(), 0);
                Check.no("the ship", z.player(0, 0) == place);
                Check.eq("taken", z.player(0, 1), 0);
            }
        }
    }

    private static int apart(int a, int b) {
        return Math.abs(a / 3 - b / 3) + Math.abs(a % 3 - b % 3);
    }

    private static int nearest(ShiftIsles x) {
        int reach = new Chart(x, 0).reach(4);
        int least = 1000;
        for (int n = 0; n < 9; n++) {
            least = Math.min(least, Look.bit(reach, n) == 1 ? apart(n, x.player(0, 3)) : 1000);
        }
        return least;
    }

    private static int count(ShiftIsles x) {
        int reach = new Chart(x, 0).reach(4);
        int count = 0;
        for (int n = 0; n < 9; n++) {
            count += Look.bit(reach, n) == 1 && apart(n, x.player(0, 3)) == nearest(x) ? 1 : 0;
        }
        return count;
    }

    private static void goesNearest() {
        Check.sentence("otherwise to the tile that it can reach and that is nearest to it");
        ShiftIsles x = Look.seek(2, "one place is nearer than the ship's",
                y -> nearest(y) == 1 && count(y) == 1 && apart(4, y.player(0, 3)) == 2);
        int goal = x.player(0, 3);
        Check.eq("play()", x.play(), 0);
        Check.eq("how near", apart(x.player(0, 0), goal), 1);
        Check.eq("taken", x.player(0, 1), 0);

        Check.sentence("(the difference of rows and that of columns, together)");
        ShiftIsles d = Look.seek(2, "the place 2 is as near to 0 as the middle", y ->
                y.player(0, 3) == 0 && nearest(y) == 2 && Look.bit(y.player(0, 7), 2) == 1);
        d.play();
        Check.eq("the ship", d.player(0, 0), 2);
        for (long seed = 0; seed < 200; seed++) {
            goesOnManyBoards(seed);
        }
    }

    /** Ships at all places, with all numbers of steps. */
    private static void goesOnManyBoards(long seed) {
        ShiftIsles x = Look.game(2 + (int) (seed % 3), seed);
        x.set(0, 1 + (int) (seed % 9));
        for (int turn = 0; turn < 15 && x.about(4) == 0; turn++) {
            int p = x.about(1);
            int goal = x.player(p, 3);
            int reach = new Chart(x, p).reach(x.setting(0));
            int due = -1;
            for (int n = 8; n >= 0; n--) {
                if (Look.bit(reach, n) == 1 && (due < 0 || apart(n, goal) <= apart(due, goal))) {
                    due = n;
                }
            }
            x.play();
            Check.eq("the ship", x.player(p, 0), due);
        }
    }

    private static void lowestPlace() {
        Check.sentence("of several the lowest place");
        int[] kinds = new int[5];
        for (long seed = 0; seed < 3000; seed++) {
            ShiftIsles x = Look.game(2, seed);
            if (nearest(x) > 0 && count(x) > 1) {
                int goal = x.player(0, 3);
                int reach = new Chart(x, 0).reach(4);
                int due = 0;
                while (Look.bit(reach, due) == 0 || apart(due, goal) != nearest(x)) {
                    due++;
                }
                kinds[count(x)]++;
                if (kinds[count(x)] <= 20) {
                    x.play();
                    Check.eq("the ship", x.player(0, 0), due);
                }
            }
        }
        Check.yes("two of them, and three: " + kinds[2] + " " + kinds[3], kinds[2] >= 20 && kinds[3] >= 3);
    }

    private static void staysIfNearest() {
        Check.sentence("the tile that it can reach and that is nearest to it");
        ShiftIsles x = Look.seek(2, "no place is nearer than the ship's", y -> nearest(y) == 1
                && count(y) == 1 && apart(4, y.player(0, 3)) == 1 && Integer.bitCount(y.player(0, 7)) > 3);
        Check.eq("play()", x.play(), 0);
        Check.eq("the ship", x.player(0, 0), 4);
        Check.eq("the turn has ended", x.about(3), 1);
    }

    private static void noSecondShift() {
        Check.sentence("plays by rule what is left of the turn: shifts, if no line has been shifted in"
                + " this turn, and goes");
        for (long seed = 0; seed < 20; seed++) {
            ShiftIsles x = Look.game(3, seed);
            x.shift(2, 5, 0);
            String boards = Look.board(x, 1) + Look.board(x, 2);
            int place = x.player(0, 3);
            boolean near = x.player(0, 8) == 1;
            Check.eq("play()", x.play() > 0 ? 1 : 0, near ? 1 : 0);
            Check.same("the other boards", Look.board(x, 1) + Look.board(x, 2), boards);
            Check.eq("there", x.player(0, 0) == place ? 1 : 0, near ? 1 : 0);
            Check.eq("one turn", x.about(3), 1);
            ShiftIsles y = Look.game(3, seed);
            int k = chosen(y);
            y.play();
            Check.eq("the line", y.player(k / 12, 5), k % 12 / 2);
            Check.eq("the direction", y.player(k / 12, 6), k % 2);
            Check.eq("one turn", y.about(3), 1);
        }
    }
}
