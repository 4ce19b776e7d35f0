/** The section BOARDS of the document, sentence by sentence. */
public final class BoardsTest {
    public static void main(String[] args) {
        playersAndPlaces();
        openings();
        treasuresAndShips();
        forwards();
        backwards();
        shipGoesAlong();
        shipOfAnotherLine();
        Check.end();
    }

    private static void playersAndPlaces() {
        Check.sentence("There are 2 to 4 players, numbered from 0");
        for (int players = 2; players <= 4; players++) {
            ShiftIsles x = Look.game(players, 11);
            int none = players;
            Check.eq("the first player", x.player(0, 1), 0);
            Check.eq("the last player", x.player(players - 1, 1), 0);
            Check.fails("one more", x, Check.BOUNDS, () -> x.player(none, 1));
            Check.fails("one less than 0", x, Check.BOUNDS, () -> x.player(-1, 1));
        }
        Check.sentence("each has a board of 9 tiles at the places 0 to 8");
        ShiftIsles x = Look.game(4, 11);
        for (int p = 0; p < 4; p++) {
            int who = p;
            Check.yes("a tile at 0", x.tile(p, 0, 0) > 0);
            Check.yes("a tile at 8", x.tile(p, 8, 0) > 0);
            Check.fails("the place 9", x, Check.BOUNDS, () -> x.tile(who, 9, 0));
            Check.fails("the place -1", x, Check.BOUNDS, () -> x.tile(who, -1, 0));
        }
    }

    /** From the middle, one step in each of the four directions needs the opening of that number. */
    private static void openings() {
        Check.sentence("openings, told as the sum of 1 (upwards), 2 (to the right), 4 (downwards),"
                + " 8 (to the left)");
        int[] beside = {1, 5, 7, 3};
        int[] there = {1, 2, 4, 8};
        int[] back = {4, 8, 1, 2};
        int[] open = new int[4];
        int[] closed = new int[4];
        for (long seed = 0; seed < 200; seed++) {
            ShiftIsles x = Look.game(2, seed);
            for (int i = 0; i < 4; i++) {
                boolean due = (x.tile(0, 4, 0) & there[i]) != 0 && (x.tile(0, beside[i], 0) & back[i]) != 0;
                Check.eq("one step from 4 to " + beside[i], x.steps(0, beside[i]) == 1 ? 1 : 0, due ? 1 : 0);
                open[i] += due ? 1 : 0;
                closed[i] += due ? 0 : 1;
            }
        }
        for (int i = 0; i < 4; i++) {
            Check.yes("both kinds are among them", open[i] > 20 && closed[i] > 20);
        }
    }

    private static void treasuresAndShips() {
        for (long seed = 0; seed < 100; seed++) {
            ShiftIsles x = Look.game(4, seed);
            for (int p = 0; p < 4; p++) {
                int[] found = new int[6];
                int ships = 0;
                for (int n = 0; n < 9; n++) {
                    int treasure = x.tile(p, n, 1);
                    found[treasure >= 0 && treasure <= 5 ? treasure : 0]++;
                    ships += x.tile(p, n, 2);
                }
                Check.sentence("a treasure, 1 to 5, or none (0)");
                Check.eq("tiles without one", found[0], 4);
                for (int treasure = 1; treasure <= 5; treasure++) {
                    Check.eq("tiles with " + treasure, found[treasure], 1);
                }
                Check.sentence("Each player has a ship on a tile of the own board");
                Check.eq("ships", ships, 1);
            }
        }
    }

    /** A game in which no two tiles of the board 1 are alike, so that each can be told again. */
    private static ShiftIsles distinct() {
        return Look.seek(2, "all tiles differ", x -> new Chart(x, 1).isDistinct());
    }

    private static void forwards() {
        for (int line = 0; line < 6; line++) {
            ShiftIsles x = distinct();
            Chart before = new Chart(x, 1);
            x.shift(1, line, 1);
            Chart after = new Chart(x, 1);
            int[] l = Chart.LINES[line];
            Check.sentence("0 to 2 are its rows, the upper one first, 3 to 5 its columns, the left one first");
            onlyLineChanged(before, after, line);
            Check.sentence("the place n is in the row n / 3, rounded down, and the column n % 3");
            for (int n = 0; n < 9; n++) {
                boolean on = line < 3 ? n / 3 == line : n % 3 == line - 3;
                Check.eq("the place " + n, after.sign(n).equals(before.sign(n)) ? 0 : 1, on ? 1 : 0);
            }
            Check.sentence("forwards (direction 1): each of its tiles goes one place to the right, or downwards");
            Check.same("the first one of " + line, after.sign(l[1]), before.sign(l[0]));
            Check.same("the middle one of " + line, after.sign(l[2]), before.sign(l[1]));
            Check.sentence("and the last one comes to the first place");
            Check.same("the last one of " + line, after.sign(l[0]), before.sign(l[2]));
        }
    }

    private static void backwards() {
        for (int line = 0; line < 6; line++) {
            ShiftIsles x = distinct();
            Chart before = new Chart(x, 1);
            x.shift(1, line, 0);
            Chart after = new Chart(x, 1);
            int[] l = Chart.LINES[line];
            Check.sentence("or backwards (direction 0): the other way");
            onlyLineChanged(before, after, line);
            Check.same("the last one of " + line, after.sign(l[1]), before.sign(l[2]));
            Check.same("the middle one of " + line, after.sign(l[0]), before.sign(l[1]));
            Check.same("the first one of " + line, after.sign(l[2]), before.sign(l[0]));
        }
    }

    private static void onlyLineChanged(Chart before, Chart after, int line) {
        int[] l = Chart.LINES[line];
        for (int n = 0; n < 9; n++) {
            boolean on = n == l[0] || n == l[1] || n == l[2];
            Check.eq("the place " + n + " changed by line " + line,
                    after.sign(n).equals(before.sign(n)) ? 0 : 1, on ? 1 : 0);
        }
    }

    /** Brings the ship of the player 1, who is not the one to begin, from 4 to the place. */
    private static ShiftIsles shipAt(int n) {
        ShiftIsles x = Look.game(2, 21);
        if (n % 3 != 1) {
            Look.turn(x, 1, 1, n % 3 / 2);
            Look.someShift(x);
            Look.stay(x);
        }
        if (n / 3 != 1) {
            Look.turn(x, 1, 3 + n % 3, n / 3 / 2);
            Look.someShift(x);
            Look.stay(x);
        }
        Check.eq("the ship", x.player(1, 0), n);
        return x;
    }

    /** From each place, with both lines on which it is, in both directions, also round the end. */
    private static void shipGoesAlong() {
        Check.sentence("A ship goes with its tile.");
        int made = 0;
        int rounds = 0;
        for (int k = 0; k < 108; k++) {
            int from = k / 12;
            int line = k % 12 / 2;
            int at = indexOf(Chart.LINES[line], from);
            ShiftIsles x = shipAt(from);
            if (at >= 0 && x.canShift(1, line, k % 2)) {
                int to = Chart.LINES[line][(at + (k % 2 == 1 ? 1 : 2)) % 3];
                String tile = new Chart(x, 1).sign(from);
                Check.eq("would be in reach", Look.bit(x.ifShifted(1, line, k % 2, 0), to), 1);
                x.shift(1, line, k % 2);
                Check.eq("the ship from " + from + " by " + line, x.player(1, 0), to);
                Check.eq("tile() there", x.tile(1, to, 2), 1);
                Check.eq("tile() where it was", x.tile(1, from, 2), 0);
                Check.same("its tile", new Chart(x, 1).sign(to), tile);
                made++;
                rounds += Math.abs(to - from) == 2 || Math.abs(to - from) == 6 ? 1 : 0;
            }
        }
        // 9 places, 2 lines, 2 directions, without those that would take the latest shift back.
        Check.eq("shifts", made, 28);
        Check.yes("round the end: " + rounds, rounds >= 6);
        roundTheEnd();
    }

    private static void roundTheEnd() {
        Check.sentence("and the last one comes to the first place");
        for (int line = 1; line <= 4; line += 3) {
            for (int way = 0; way < 2; way++) {
                ShiftIsles x = Look.game(2, 21);
                int end = Chart.LINES[line][2 * way];
                int other = Chart.LINES[line][2 - 2 * way];
                Look.turn(x, 1, line, way);
                Check.eq("at the end of the line", x.player(1, 0), end);
                Look.idle(x);
                Look.turn(x, 1, line, way);
                Check.eq("round", x.player(1, 0), other);
                Look.idle(x);
                Look.turn(x, 1, line, way);
                Check.eq("where it was", x.player(1, 0), 4);
            }
        }
    }

    private static void shipOfAnotherLine() {
        Check.sentence("A ship goes with its tile.");
        for (int k = 0; k < 12; k++) {
            int line = k / 2;
            ShiftIsles x = Look.game(2, 21);
            x.shift(1, line, k % 2);
            if (line != 1 && line != 4) {
                Check.eq("a ship on no tile of the line", x.player(1, 0), 4);
            }
            Check.eq("the ship of another board", x.player(0, 0), 4);
        }
    }

    private static int indexOf(int[] row, int n) {
        for (int i = 0; i < row.length; i++) {
            if (row[i] == n) {
                return i;
            }
        }
        return -1;
    }
}
