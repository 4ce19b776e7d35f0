/** Promises 17 to 21: what would be. The literal answers are those of the shared tests. */
public final class WouldBeTest {
    public static void main(String[] args) {
        canShift();
        ifShifted();
        ifShiftedAsShifted();
        ifShiftedPossibleOrNot();
        worstShift();
        worstShiftOfAll();
        steps();
        goesOn();
        Check.end();
    }

    private static void canShift() {
        Check.sentence("Throws IndexOutOfBoundsException if there is no such player or line");
        ShiftIsles x = new ShiftIsles();
        Check.fails("without a game", x, Check.BOUNDS, () -> x.canShift(0, 0, 0) ? 1 : 0);
        x.begin(3, 2026);
        Check.fails("player 3", x, Check.BOUNDS, () -> x.canShift(3, 0, 0) ? 1 : 0);
        Check.fails("player -1", x, Check.BOUNDS, () -> x.canShift(-1, 0, 0) ? 1 : 0);
        Check.fails("line 6", x, Check.BOUNDS, () -> x.canShift(0, 6, 0) ? 1 : 0);
        Check.fails("line -1", x, Check.BOUNDS, () -> x.canShift(0, -1, 0) ? 1 : 0);
        Check.sentence("Throws IllegalArgumentException if direction is out of range");
        Check.fails("direction 2", x, Check.ARGUMENT, () -> x.canShift(0, 0, 2) ? 1 : 0);
        Check.fails("direction -1", x, Check.ARGUMENT, () -> x.canShift(0, 0, -1) ? 1 : 0);
        Check.fails("line and direction", x, Check.BOUNDS, () -> x.canShift(0, 6, 2) ? 1 : 0);
        Check.sentence("Tells whether a shift of a board is possible, whoever's turn it is.");
        for (int k = 0; k < 36; k++) {
            Check.yes("at first", x.canShift(k / 12, k % 12 / 2, k % 2));
        }
        x.shift(1, 4, 0);
        Check.sentence("Returns whether the line is not locked, and it would not take the latest shift"
                + " back.");
        Check.no("taken back", x.canShift(1, 4, 1));
        Check.yes("once more", x.canShift(1, 4, 0));
        x.lock(2);
        Check.no("locked", x.canShift(0, 2, 0));
        Check.no("locked", x.canShift(0, 2, 1));
        x.set(2, 1);
        x.shift(0, 0, 0);
        x.go(x.player(1, 0));
        Check.eq("over", x.about(4), 1);
        Check.no("locked when it is over", x.canShift(0, 2, 1));
        Check.no("taken back when it is over", x.canShift(0, 0, 1));
        Check.yes("another when it is over", x.canShift(2, 0, 1));
    }

    private static void ifShifted() {
        ShiftIsles x = new ShiftIsles();
        Check.fails("without a game", x, Check.BOUNDS, () -> x.ifShifted(0, 0, 0, 0));
        x.begin(3, 2026);
        Check.sentence("the places that the ship of p could reach then, as a set; 1: 1 if"
                + " the sought treasure was at one of these, otherwise 0");
        int[] due = {48, 48, 24, 32, 48, 48, 48, 48, 2, 384, 48, 16};
        for (int k = 0; k < 12; k++) {
            Check.eq("ifShifted(1, " + k / 2 + ", " + k % 2 + ", 0)",
                    x.ifShifted(1, k / 2, k % 2, 0), due[k]);
            Check.eq("ifShifted(1, " + k / 2 + ", " + k % 2 + ", 1)",
                    x.ifShifted(1, k / 2, k % 2, 1), 0);
        }
        // The ship of 0 stands on the sought treasure and goes with it.
        Check.eq("the own board", x.ifShifted(0, 1, 1, 1), 1);
        Check.eq("the ship goes with its tile", Look.bit(x.ifShifted(0, 1, 1, 0), 5), 1);
        Check.sentence("Throws IndexOutOfBoundsException if there is no such player or line");
        Check.fails("player 3", x, Check.BOUNDS, () -> x.ifShifted(3, 0, 0, 0));
        Check.fails("player -1", x, Check.BOUNDS, () -> x.ifShifted(-1, 0, 0, 0));
        Check.fails("line 6", x, Check.BOUNDS, () -> x.ifShifted(0, 6, 0, 0));
        Check.fails("line -1", x, Check.BOUNDS, () -> x.ifShifted(0, -1, 0, 0));
        Check.sentence("Throws IllegalArgumentException if direction or what is out of range");
        Check.fails("direction 2", x, Check.ARGUMENT, () -> x.ifShifted(0, 0, 2, 0));
        Check.fails("direction -1", x, Check.ARGUMENT, () -> x.ifShifted(0, 0, -1, 0));
        Check.fails("what 2", x, Check.ARGUMENT, () -> x.ifShifted(0, 0, 0, 2));
        Check.fails("what -1", x, Check.ARGUMENT, () -> x.ifShifted(0, 0, 0, -1));
        Check.fails("line and what", x, Check.BOUNDS, () -> x.ifShifted(0, 6, 0, 2));
    }

    private static void ifShiftedAsShifted() {
        Check.sentence("Tells what a shift of a board would leave");
        for (long seed = 0; seed < 30; seed++) {
            ShiftIsles x = Look.game(2, seed);
            x.set(0, 1 + (int) (seed % 9));
            for (int k = 0; k < 12; k++) {
                String before = Look.at(x);
                int set = x.ifShifted(1, k / 2, k % 2, 0);
                int near = x.ifShifted(1, k / 2, k % 2, 1);
                Check.same("nothing is changed", Look.at(x), before);
                Check.eq("shift()", x.shift(1, k / 2, k % 2), Integer.bitCount(set));
                Check.eq("the places", x.player(1, 7), set);
                Check.eq("the treasure", x.player(1, 8), near);
                Check.eq("also if not possible", x.ifShifted(1, k / 2, 1 - k % 2, 0) == 0 ? 1 : 0, 0);
                x.undo();
                Check.same("undo()", Look.at(x), before);
            }
        }
        ShiftIsles y = Look.game(2, 5);
        int back = y.player(1, 7);
        y.shift(1, 4, 0);
        Check.eq("what takes it back", y.ifShifted(1, 4, 1, 0), back);
        y.lock(3);
        Check.eq("what is locked", y.ifShifted(0, 3, 1, 0) > 0 ? 1 : 0, 1);
    }

    private static void ifShiftedPossibleOrNot() {
        Check.sentence("Tells what a shift of a board would leave, whether it is possible, or not.");
        for (long seed = 0; seed < 20; seed++) {
            ShiftIsles x = Look.game(2, seed);
            x.set(1, 5);
            allShifts(x);
            x.shift(1, (int) seed % 6, 1);
            allShifts(x);
            x.lock((int) seed % 5);
            allShifts(x);
            x.set(2, 1);
            x.play();
            Check.eq("over", x.about(4), 1);
            allShifts(x);
        }
    }

    private static void allShifts(ShiftIsles x) {
        String before = Look.at(x);
        for (int k = 0; k < 24; k++) {
            int p = k / 12;
            int line = k % 12 / 2;
            boolean possible = x.canShift(p, line, k % 2);
            int reach = new Chart(x, p).shifted(line, k % 2).reach(4);
            int place = new Chart(x, p).shifted(line, k % 2).placeOf(x.player(p, 2));
            Check.eq("the places", x.ifShifted(p, line, k % 2, 0), reach);
            Check.eq("the treasure", x.ifShifted(p, line, k % 2, 1), Look.bit(reach, place));
            Check.eq("canShift()", x.canShift(p, line, k % 2) ? 1 : 0, possible ? 1 : 0);
        }
        Check.same("nothing is changed", Look.at(x), before);
    }

    private static void worst(String when, ShiftIsles x, int... due) {
        for (int what = 0; what < 3; what++) {
            Check.eq("worstShift(" + what + ") " + when, x.worstShift(what), due[what]);
        }
    }

    private static void worstShift() {
        ShiftIsles x = new ShiftIsles();
        Check.sentence("NONE if there is no game, it is over, or a line has been shifted in this turn.");
        worst("without a game", x, -1, -1, -1);
        Check.sentence("Throws IllegalArgumentException if what is not 0 to 2");
        Check.fails("worstShift(-1)", x, Check.ARGUMENT, () -> x.worstShift(-1));
        Check.fails("worstShift(3)", x, Check.ARGUMENT, () -> x.worstShift(3));
        x.begin(3, 2026);
        Check.sentence("the player whose board it is; 1: the line; 2: the direction");
        worst("at first", x, 1, 1, 1);
        Check.sentence("NONE if there is no game, it is over, or a line has been shifted in this turn.");
        x.shift(2, 0, 0);
        worst("when one has been shifted", x, -1, -1, -1);
        Check.fails("worstShift(3) then", x, Check.ARGUMENT, () -> x.worstShift(3));
        x.set(1, 1);
        x.go(4);
        worst("when it is over", x, -1, -1, -1);
    }

    /** No shift that is possible leaves less; of those that leave as little, none comes before. */
    private static void worstShiftOfAll() {
        Check.sentence("Finds the shift by rule for the player whose turn it is.");
        for (long seed = 0; seed < 60; seed++) {
            ShiftIsles x = Look.game(2 + (int) (seed % 3), seed);
            x.set(0, 1 + (int) (seed % 9));
            for (int turn = 0; turn < 12 && x.about(4) == 0; turn++) {
                int[] due = {-1, -1, -1};
                int least = 1000;
                for (int k = 0; k < 12 * x.about(0); k++) {
                    int p = k / 12;
                    int line = k % 12 / 2;
                    if (p != x.about(1) && x.canShift(p, line, k % 2)) {
                        int left = 10 * x.ifShifted(p, line, k % 2, 1)
                                + Integer.bitCount(x.ifShifted(p, line, k % 2, 0));
                        if (left < least) {
                            least = left;
                            due = new int[] {p, line, k % 2};
                        }
                    }
                }
                worst("seed " + seed + " turn " + turn, x, due);
                if (turn % 3 == 2) {
                    x.shift(due[0], due[1], due[2]);
                    x.lock(turn % 6);
                } else {
                    x.play();
                }
            }
        }
    }

    private static void steps() {
        ShiftIsles x = new ShiftIsles();
        Check.sentence("Throws IndexOutOfBoundsException if there is no such player or place");
        Check.fails("without a game", x, Check.BOUNDS, () -> x.steps(0, 0));
        x.begin(3, 2026);
        Check.fails("player 3", x, Check.BOUNDS, () -> x.steps(3, 0));
        Check.fails("player -1", x, Check.BOUNDS, () -> x.steps(-1, 0));
        Check.fails("place 9", x, Check.BOUNDS, () -> x.steps(0, 9));
        Check.fails("place -1", x, Check.BOUNDS, () -> x.steps(0, -1));
        Check.sentence("Returns the fewest steps to it, however many a turn has, 0 where the ship is; NONE if there"
                + " are none.");
        int[] due = {-1, 1, -1, -1, 0, -1, -1, 1, 2};
        for (int most = 1; most <= 9; most++) {
            x.set(0, most);
            for (int n = 0; n < 9; n++) {
                Check.eq("steps(2, " + n + ")", x.steps(2, n), due[n]);
            }
        }
        stepsAndReach();
    }

    /** Far ways too: the places in reach are those with as many steps, or fewer. */
    private static void stepsAndReach() {
        int longest = 0;
        for (long seed = 0; seed < 3000; seed++) {
            ShiftIsles x = Look.game(4, seed);
            for (int p = 0; p < 4; p++) {
                for (int n = 0; n < 9; n++) {
                    longest = Math.max(longest, x.steps(p, n));
                }
            }
            for (int most = 1; most <= 9 && seed < 100; most++) {
                x.set(0, most);
                for (int n = 0; n < 9; n++) {
                    int steps = x.steps(3, n);
                    Check.eq("in reach", Look.bit(x.player(3, 7), n), steps >= 0 && steps <= most ? 1 : 0);
                }
            }
        }
        Check.yes("long ways are among them: " + longest, longest >= 6);
    }

    private static void goesOn() {
        ShiftIsles x = new ShiftIsles();
        Check.sentence("NONE without a game.");
        for (int what = 0; what < 3; what++) {
            Check.eq("goesOn(" + what + ") without a game", x.goesOn(what), -1);
        }
        Check.sentence("Throws IllegalArgumentException if what is not 0 to 2");
        Check.fails("goesOn(-1)", x, Check.ARGUMENT, () -> x.goesOn(-1));
        Check.fails("goesOn(3)", x, Check.ARGUMENT, () -> x.goesOn(3));
        x.begin(3, 2026);
        Check.sentence("who has won then, NONE if nobody has; 1: the turns that have ended then; 2: the"
                + " treasures that all have taken then, how many");
        Check.eq("goesOn(0)", x.goesOn(0), -1);
        Check.eq("goesOn(1)", x.goesOn(1), 60);
        Check.eq("goesOn(2)", x.goesOn(2), 1);
        Check.fails("goesOn(3)", x, Check.ARGUMENT, () -> x.goesOn(3));
        Check.sentence("Tells how the game would end, if all played by rule from now on.");
        int won = 0;
        for (long seed = 0; seed < 60; seed++) {
            won += playedOut(seed) >= 0 ? 1 : 0;
        }
        Check.yes("some have won: " + won, won > 5);
        longest();
    }

    private static int playedOut(long seed) {
        ShiftIsles x = Look.game(2 + (int) (seed % 3), seed);
        x.set(0, 9);
        x.set(1, 1 + (int) (seed % 3));
        if (seed % 2 == 0) {
            x.shift(1, 0, 0);
        }
        if (seed % 4 == 0) {
            x.lock(3);
        }
        String before = Look.at(x);
        int winner = x.goesOn(0);
        int ended = x.goesOn(1);
        int taken = x.goesOn(2);
        Check.same("nothing is changed", Look.at(x), before);
        while (x.about(4) == 0) {
            x.play();
        }
        Check.eq("who has won", x.about(5), winner);
        Check.eq("turns", x.about(3), ended);
        int all = 0;
        for (int p = 0; p < x.about(0); p++) {
            all += x.player(p, 1);
        }
        Check.eq("taken", all, taken);
        Check.eq("goesOn(0) when it is over", x.goesOn(0), winner);
        Check.eq("goesOn(1) when it is over", x.goesOn(1), ended);
        Check.eq("goesOn(2) when it is over", x.goesOn(2), taken);
        return winner;
    }

    private static void longest() {
        ShiftIsles x = Look.game(3, 2026);
        x.set(1, 5);
        x.set(2, 200);
        Check.eq("goesOn(1) of the longest game", x.goesOn(1), 200);
        Check.eq("goesOn(0) of it", x.goesOn(0), -1);
    }
}
