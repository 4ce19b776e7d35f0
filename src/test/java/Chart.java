/** A board as it is seen through tile(), on which a test can work out what is due. */
final class Chart {
    /** The places of each line, from the first to the last. */
    static final int[][] LINES = {
        {0, 1, 2}, {3, 4, 5}, {6, 7, 8}, {0, 3, 6}, {1, 4, 7}, {2, 5, 8}};
    static final int UP = 1;
    static final int RIGHT = 2;
    static final int DOWN = 4;
    static final int LEFT = 8;
    static final int FAR = 1000;

    final int[] openings = new int[9];
    final int[] treasures = new int[9];
    int ship;

    Chart(ShiftIsles x, int p) {
        for (int n = 0; n < 9; n++) {
            openings[n] = x.tile(p, n, 0);
            treasures[n] = x.tile(p, n, 1);
            if (x.tile(p, n, 2) == 1) {
                ship = n;
            }
        }
    }

    String sign(int n) {
        return openings[n] + "/" + treasures[n];
    }

    /** Whether no tile of the board is like another one. */
    boolean isDistinct() {
        for (int a = 0; a < 9; a++) {
            for (int b = 0; b < a; b++) {
                if (sign(a).equals(sign(b))) {
                    return false;
                }
            }
        }
        return true;
    }

    boolean has(int n, int opening) {
        return (openings[n] & opening) != 0;
    }

    /** Whether a ship can go from a to b with one step. */
    boolean isOpen(int a, int b) {
        if (a / 3 == b / 3) {
            return b - a == 1 && has(a, RIGHT) && has(b, LEFT)
                    || a - b == 1 && has(a, LEFT) && has(b, RIGHT);
        }
        return b - a == 3 && has(a, DOWN) && has(b, UP)
                || a - b == 3 && has(a, UP) && has(b, DOWN);
    }

    /** The fewest steps to each place, FAR where there are none. */
    int[] steps() {
        int[] steps = new int[9];
        java.util.Arrays.fill(steps, FAR);
        steps[ship] = 0;
        for (int round = 0; round < 9; round++) {
            for (int a = 0; a < 9; a++) {
                for (int b = 0; b < 9; b++) {
                    if (isOpen(a, b)) {
                        steps[b] = Math.min(steps[b], steps[a] + 1);
                    }
                }
            }
        }
        return steps;
    }

    /** The places that the ship can reach with so many steps, as a set. */
    int reach(int most) {
        int[] steps = steps();
        int set = 0;
        for (int n = 0; n < 9; n++) {
            set += steps[n] <= most ? 1 << n : 0;
        }
        return set;
    }

    int placeOf(int treasure) {
        for (int n = 0; n < 9; n++) {
            if (treasure > 0 && treasures[n] == treasure) {
                return n;
            }
        }
        return -1;
    }

    /** Shifts a line of the chart, with all that is on it. */
    Chart shifted(int line, int direction) {
        int[] l = LINES[line];
        int[] from = direction == 1 ? new int[] {l[2], l[0], l[1]} : new int[] {l[1], l[2], l[0]};
        int[] oldOpenings = openings.clone();
        int[] oldTreasures = treasures.clone();
        int oldShip = ship;
        for (int i = 0; i < 3; i++) {
            openings[l[i]] = oldOpenings[from[i]];
            treasures[l[i]] = oldTreasures[from[i]];
            if (oldShip == from[i]) {
                ship = l[i];
            }
        }
        return this;
    }
}
