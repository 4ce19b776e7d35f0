/** The first half of the section A TURN of the document: shifts, ways and treasures. */
public final class TurnTest {
    public static void main(String[] args) {
        shiftsFirst();
        thenGoesOrLocks();
        lockedLine();
        notTakenBack();
        notTakenBackByLaterOnes();
        openingsTowardsEachOther();
        notRoundTheEdge();
        atMostSteps();
        stays();
        takesWhatIsSought();
        takesNothingOnTheWay();
        takesNoOther();
        Check.end();
    }

    private static void shiftsFirst() {
        Check.sentence("The player whose turn it is first shifts a line of another player's board");
        for (int players = 2; players <= 4; players++) {
            ShiftIsles x = Look.game(players, 8);
            x.set(1, 5);
            for (int turn = 0; turn < 2 * players; turn++) {
                int own = turn % players;
                Check.fails("lock() first", x, Check.STATE, () -> x.lock(0));
                Check.fails("go() first", x, Check.STATE, () -> x.go(x.player(own, 0)));
                Check.fails("the own board", x, Check.STATE, () -> x.shift(own, 2, 1));
                int p = (own + 1 + turn / players % (players - 1)) % players;
                Check.eq("nothing is shifted", x.about(2), 0);
                x.shift(p, turn % 6, 1);
                Check.eq("shifted", x.about(2), 1);
                Check.eq("still the same turn", x.about(1), own);
                Check.eq("no turn more has ended", x.about(3), turn);
                for (int k = 0; k < 12 * players; k++) {
                    int line = k % 12 / 2;
                    int way = k % 2;
                    int who = k / 12;
                    Check.fails("a second shift", Check.STATE, () -> x.shift(who, line, way));
                }
                Look.stay(x);
            }
        }
    }

    private static void thenGoesOrLocks() {
        Check.sentence("and then goes with the own ship, or locks a line of the own board");
        ShiftIsles x = Look.game(3, 8);
        x.shift(2, 0, 1);
        Look.stay(x);
        Check.eq("the turn has ended", x.about(3), 1);
        Check.eq("nothing is shifted in the next one", x.about(2), 0);
        Check.fails("go() once more", x, Check.STATE, () -> x.go(4));
        Check.fails("lock() behind it", x, Check.STATE, () -> x.lock(1));
        x.shift(0, 0, 1);
        x.lock(3);
        Check.eq("the turn has ended", x.about(3), 2);
        Check.eq("the own board is locked", x.player(1, 4), 3);
        Check.eq("no other one", x.player(0, 4) + x.player(2, 4), -2);
        Check.fails("go() behind it", x, Check.STATE, () -> x.go(4));
        Check.fails("lock() once more", x, Check.STATE, () -> x.lock(1));
    }

    private static void lockedLine() {
        Check.sentence("A line that is locked cannot be shifted");
        for (int line = 0; line < 6; line++) {
            ShiftIsles x = Look.game(2, 40 + line);
            Look.someShift(x);
            x.lock(line);
            int locked = line;
            Check.fails("forwards", x, Check.STATE, () -> x.shift(0, locked, 1));
            Check.fails("backwards", x, Check.STATE, () -> x.shift(0, locked, 0));
            for (int k = 0; k < 12; k++) {
                Check.eq("canShift()", x.canShift(0, k / 2, k % 2) ? 1 : 0, k / 2 == line ? 0 : 1);
                Check.yes("no other board's", k < 2 || x.canShift(1, k / 2, k % 2));
            }
            int across = line < 3 ? 3 + line : line - 3;
            x.shift(0, across, 1);
            Check.eq("a line across is shifted", x.player(0, 5), across);
            Check.eq("the same line is locked then", x.player(0, 4), line);
            Check.no("as before", x.canShift(0, line, 1));
        }
    }

    private static void notTakenBack() {
        Check.sentence("nor can the latest shift of a board be taken back by the next one of that board"
                + " (the same line in the other direction)");
        for (int k = 0; k < 12; k++) {
            int line = k / 2;
            int way = k % 2;
            ShiftIsles x = Look.game(3, 50);
            x.set(1, 5);
            Look.turn(x, 2, line, way);
            Check.fails("at once", x, Check.STATE, () -> x.shift(2, line, 1 - way));
            for (int j = 0; j < 12; j++) {
                boolean due = j / 2 != line || j % 2 == way;
                Check.eq("canShift(2, " + j / 2 + ", " + j % 2 + ")",
                        x.canShift(2, j / 2, j % 2) ? 1 : 0, due ? 1 : 0);
                Check.yes("of another board", x.canShift(0, j / 2, j % 2));
            }
            Look.turn(x, 2, line, way);
            Check.eq("once more, in the same direction", x.player(2, 6), way);
            Look.turn(x, 0, line, 1 - way);
            Check.fails("still, behind the second one", x, Check.STATE, () -> x.shift(2, line, 1 - way));
            Check.yes("the third one", x.canShift(2, line, way));
        }
    }

    private static void notTakenBackByLaterOnes() {
        Check.sentence("nor can the latest shift of a board be taken back by the next one of that board");
        ShiftIsles x = Look.game(3, 51);
        x.set(1, 5);
        Look.turn(x, 2, 3, 1);
        Look.turn(x, 0, 1, 0);
        x.shift(1, 2, 0);
        x.lock(5);
        Look.turn(x, 1, 2, 0);
        Check.fails("behind shifts of other boards", x, Check.STATE, () -> x.shift(2, 3, 0));
        Check.no("behind a lock of that board", x.canShift(2, 3, 0));
        Look.turn(x, 2, 4, 1);
        Check.fails("the next one of that board", x, Check.STATE, () -> x.shift(0, 1, 1));
        Check.yes("behind another of that board", x.canShift(2, 3, 0));
        Check.no("of which it holds now", x.canShift(2, 4, 0));
        Look.idle(x);
        Look.turn(x, 2, 3, 0);
        Check.eq("the line", x.player(2, 5), 3);
        Check.eq("the direction", x.player(2, 6), 0);
        Check.no("the other way round now", x.canShift(2, 3, 1));
        x.begin(3, 51);
        Check.yes("not in a new game", x.canShift(2, 3, 1));
    }

    private static void openingsTowardsEachOther() {
        int[] kinds = new int[4];
        for (long seed = 0; seed < 300; seed++) {
            ShiftIsles x = Look.game(2, seed);
            int[] beside = {1, 3, 5, 7};
            int[] there = {Chart.UP, Chart.LEFT, Chart.RIGHT, Chart.DOWN};
            int[] back = {Chart.DOWN, Chart.RIGHT, Chart.LEFT, Chart.UP};
            for (int i = 0; i < 4; i++) {
                boolean first = (x.tile(0, 4, 0) & there[i]) != 0;
                boolean second = (x.tile(0, beside[i], 0) & back[i]) != 0;
                int kind = (first ? 1 : 0) + (second ? 2 : 0);
                kinds[kind]++;
                Check.sentence(kind == 1 ? "and the second one towards the first one"
                        : "if the first one has an opening towards the second one");
                ShiftIsles y = Look.game(2, seed);
                y.set(0, 1);
                y.shift(1, 0, 0);
                int n = beside[i];
                if (kind == 3) {
                    y.go(n);
                    Check.eq("the ship", y.player(0, 0), n);
                } else {
                    Check.fails("one step to " + n, Check.STATE, () -> y.go(n));
                }
            }
        }
        for (int kind = 0; kind < 4; kind++) {
            Check.yes("all kinds are among them", kinds[kind] > 50);
        }
    }

    /** Where the openings are towards each other round the edge, or from a row's end to the next. */
    private static void notRoundTheEdge() {
        Check.sentence("The ship can go from a tile to one beside it (not round the edge)");
        int[][] pairs = {{5, 3}, {5, 6}, {3, 5}, {3, 2}, {7, 1}, {1, 7}};
        int[] there = {Chart.RIGHT, Chart.RIGHT, Chart.LEFT, Chart.LEFT, Chart.DOWN, Chart.UP};
        int[] back = {Chart.LEFT, Chart.LEFT, Chart.RIGHT, Chart.RIGHT, Chart.UP, Chart.DOWN};
        int[] lines = {1, 1, 1, 1, 4, 4};
        for (int i = 0; i < pairs.length; i++) {
            int line = lines[i];
            int from = pairs[i][0];
            int to = pairs[i][1];
            int way = from > 4 ? 1 : 0;
            int first = there[i];
            int second = back[i];
            ShiftIsles x = Look.seek(2, "a way round the edge would be open", y -> {
                Chart chart = new Chart(y, 1).shifted(line, way);
                return chart.has(from, first) && chart.has(to, second) && chart.steps()[to] == Chart.FAR;
            });
            x.set(0, 9);
            x.shift(1, line, way);
            Check.eq("the ship", x.player(1, 0), from);
            Check.eq("steps from " + from + " to " + to, x.steps(1, to), -1);
            Check.eq("in reach", Look.bit(x.player(1, 7), to), 0);
            x.lock(0);
            x.shift(0, 1, 0);
            Check.fails("go(" + to + ")", x, Check.STATE, () -> x.go(to));
        }
    }

    private static void atMostSteps() {
        for (int steps = 1; steps <= 8; steps++) {
            int due = steps;
            ShiftIsles x = Look.seek(2, "a place is so far", y -> farthest(new Chart(y, 0)) == due);
            int n = placeWith(new Chart(x, 0), steps);
            Check.sentence("it goes by at most setting 0 such steps");
            Check.eq("steps()", x.steps(0, n), steps);
            x.shift(1, 0, 0);
            if (steps > 1) {
                x.set(0, steps - 1);
                Check.eq("not in reach", Look.bit(x.player(0, 7), n), 0);
                Check.fails("one step too many", x, Check.STATE, () -> x.go(n));
            }
            x.set(0, steps);
            Check.eq("just in reach", Look.bit(x.player(0, 7), n), 1);
            x.go(n);
            Check.eq("the ship", x.player(0, 0), n);
        }
    }

    private static int farthest(Chart chart) {
        int most = 0;
        for (int steps : chart.steps()) {
            most = Math.max(most, steps == Chart.FAR ? 0 : steps);
        }
        return most;
    }

    private static int placeWith(Chart chart, int steps) {
        for (int n = 0; n < 9; n++) {
            if (chart.steps()[n] == steps) {
                return n;
            }
        }
        return -1;
    }

    private static void stays() {
        Check.sentence("or stays");
        ShiftIsles x = Look.seek(2, "the ship can go nowhere",
                y -> new Chart(y, 0).reach(9) == 16 && y.player(0, 3) != 4);
        x.set(0, 9);
        x.shift(1, 0, 0);
        for (int n = 0; n < 9; n++) {
            int to = n;
            if (n != 4) {
                Check.fails("go(" + n + ")", x, Check.STATE, () -> x.go(to));
            }
        }
        Check.eq("go(4)", x.go(4), 0);
        Check.eq("the ship", x.player(0, 0), 4);
        Check.eq("the turn has ended", x.about(3), 1);
    }

    private static void takesWhatIsSought() {
        for (int distance = 0; distance <= 3; distance++) {
            int due = distance;
            ShiftIsles x = Look.seek(2, "the sought treasure is so far",
                    y -> y.player(0, 3) >= 0 && new Chart(y, 0).steps()[y.player(0, 3)] == due);
            int place = new Chart(x, 0).placeOf(x.player(0, 2));
            int sought = x.player(0, 2);
            x.shift(1, 0, 0);
            Check.sentence("If there is the treasure on the tile where it ends that is sought now, the player takes it");
            Check.eq("go()", x.go(place), sought);
            Check.eq("taken", x.player(0, 1), 1);
            Check.sentence("it is on no tile any more");
            for (int n = 0; n < 9; n++) {
                Check.no("on a tile", x.tile(0, n, 1) == sought);
            }
            Check.sentence("and the next one is sought");
            Check.no("the same one", x.player(0, 2) == sought);
            Check.eq("where it is", x.player(0, 3), new Chart(x, 0).placeOf(x.player(0, 2)));
            Check.eq("nothing else is taken", x.player(1, 1), 0);
        }
    }

    private static void takesNothingOnTheWay() {
        Check.sentence("the treasure on the tile where it ends");
        ShiftIsles x = Look.seek(2, "the only way to 0 is over the sought treasure at 1", y -> {
            Chart chart = new Chart(y, 0);
            return y.player(0, 3) == 1 && chart.isOpen(4, 1) && chart.isOpen(1, 0) && !chart.isOpen(3, 0);
        });
        int sought = x.player(0, 2);
        x.shift(1, 0, 0);
        Check.eq("go(0)", x.go(0), 0);
        Check.eq("taken", x.player(0, 1), 0);
        Check.eq("it is still there", x.tile(0, 1, 1), sought);
        Check.eq("it is still sought", x.player(0, 2), sought);
        ShiftIsles y = Look.seek(2, "the ship begins on the sought treasure",
                z -> z.player(0, 3) == 4 && new Chart(z, 0).isOpen(4, 3));
        y.shift(1, 0, 0);
        Check.eq("where it begins", y.go(3), 0);
        Check.eq("it is still there", y.tile(0, 4, 1), y.player(0, 2));
    }

    private static void takesNoOther() {
        Check.sentence("that is sought now");
        int others = 0;
        for (long seed = 0; seed < 30; seed++) {
            ShiftIsles x = Look.game(2, seed);
            x.shift(1, 0, 0);
            for (int n = 0; n < 9; n++) {
                int treasure = x.tile(0, n, 1);
                if (Look.bit(x.player(0, 7), n) == 1 && treasure != x.player(0, 2)) {
                    Check.eq("go(" + n + ")", x.go(n), 0);
                    Check.eq("what is there", x.tile(0, n, 1), treasure);
                    Check.eq("taken", x.player(0, 1), 0);
                    x.undo();
                    others += treasure > 0 ? 1 : 0;
                }
            }
        }
        Check.yes("other treasures: " + others, others > 10);
        ShiftIsles x = Look.seek(2, "the other player's treasure is where the own ship is",
                y -> y.player(1, 3) == 4 && y.tile(0, 4, 1) == y.player(1, 2) && y.player(0, 3) != 4);
        x.shift(1, 0, 0);
        Check.eq("what the other player seeks", x.go(4), 0);
    }
}
