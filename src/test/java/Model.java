import java.util.ArrayDeque;
import java.util.Deque;
import java.util.function.IntBinaryOperator;
import java.util.regex.Matcher;
import java.util.regex.Pattern;

/**
 * The document once more, held and computed in another way (tiles as objects in a grid, ships that
 * stand on tiles, ways by trying them, whole states copied, the text by a pattern), to be compared
 * with ShiftIsles. An exception is answered as one of the numbers below.
 */
final class Model {
    static final long BOUNDS = -1001;
    static final long ARGUMENT = -1002;
    static final long STATE = -1003;

    private static final Pattern GAME =
            Pattern.compile("I[2-4][0-9][0-9](s[0-3][0-5][+-]|g[0-8]|l[0-5])*", Pattern.DOTALL);

    private static final class Tile {
        final int openings;
        int treasure;

        Tile(int openings, int treasure) {
            this.openings = openings;
            this.treasure = treasure;
        }
    }

    private static final class Isle {
        Tile[][] tiles = new Tile[3][3];
        Tile ship;
        Deque<Integer> seeks = new ArrayDeque<>();
        int lock = -1;
        int line = -1;
        int direction = -1;

        Isle copy() {
            Isle other = new Isle();
            for (int r = 0; r < 3; r++) {
                for (int c = 0; c < 3; c++) {
                    Tile t = tiles[r][c];
                    other.tiles[r][c] = new Tile(t.openings, t.treasure);
                    if (t == ship) {
                        other.ship = other.tiles[r][c];
                    }
                }
            }
            other.seeks = new ArrayDeque<>(seeks);
            other.lock = lock;
            other.line = line;
            other.direction = direction;
            return other;
        }

        Tile at(int n) {
            return tiles[n / 3][n % 3];
        }

        int shipPlace() {
            for (int n = 0; n < 9; n++) {
                if (at(n) == ship) {
                    return n;
                }
            }
            throw new AssertionError("the ship is lost");
        }

        int taken() {
            return 5 - seeks.size();
        }

        int sought() {
            return seeks.isEmpty() ? -1 : seeks.peek();
        }

        int soughtPlace() {
            for (int n = 0; n < 9; n++) {
                if (!seeks.isEmpty() && at(n).treasure == seeks.peek()) {
                    return n;
                }
            }
            return -1;
        }

        void slide(int index, int way) {
            Tile[][] old = {tiles[0].clone(), tiles[1].clone(), tiles[2].clone()};
            for (int k = 0; k < 3; k++) {
                int to = way == 1 ? (k + 1) % 3 : (k + 2) % 3;
                if (index < 3) {
                    tiles[index][to] = old[index][k];
                } else {
                    tiles[to][index - 3] = old[k][index - 3];
                }
            }
            line = index;
            direction = way;
        }

        boolean free(int index, int way) {
            if (lock == index) {
                return false;
            }
            return line != index || direction == way;
        }

        /** The fewest steps from place to place, by shortening ways through every place. */
        int[][] distances() {
            int[][] d = new int[9][9];
            for (int a = 0; a < 9; a++) {
                for (int b = 0; b < 9; b++) {
                    d[a][b] = a == b ? 0 : isOpen(a, b) ? 1 : 1000;
                }
            }
            for (int m = 0; m < 9; m++) {
                for (int a = 0; a < 9; a++) {
                    for (int b = 0; b < 9; b++) {
                        d[a][b] = Math.min(d[a][b], d[a][m] + d[m][b]);
                    }
                }
            }
            return d;
        }

        private boolean isOpen(int a, int b) {
            int down = b / 3 - a / 3;
            int right = b % 3 - a % 3;
            int there = at(a).openings;
            int back = at(b).openings;
            if (down == 0 && right == 1) {
                return there / 2 % 2 == 1 && back / 8 % 2 == 1;
            }
            if (down == 1 && right == 0) {
                return there / 4 % 2 == 1 && back % 2 == 1;
            }
            return (down == 0 && right == -1 || down == -1 && right == 0) && isOpen(b, a);
        }

        int set(int most) {
            int sum = 0;
            int[] from = distances()[shipPlace()];
            for (int n = 0; n < 9; n++) {
                sum += from[n] <= most ? (int) Math.pow(2, n) : 0;
            }
            return sum;
        }

        int canTake(int most) {
            int n = soughtPlace();
            return n >= 0 && distances()[shipPlace()][n] <= most ? 1 : 0;
        }
    }

    private static final class Sea {
        int[] settings = {4, 3, 60};
        Isle[] isles = {};
        int turn;
        boolean shifted;
        int ended;
        boolean over;
        int winner = -1;

        Sea copy() {
            Sea other = new Sea();
            other.settings = settings.clone();
            other.isles = new Isle[isles.length];
            for (int p = 0; p < isles.length; p++) {
                other.isles[p] = isles[p].copy();
            }
            other.turn = turn;
            other.shifted = shifted;
            other.ended = ended;
            other.over = over;
            other.winner = winner;
            return other;
        }

        int taken() {
            int sum = 0;
            for (Isle isle : isles) {
                sum += isle.taken();
            }
            return sum;
        }

        boolean running() {
            return isles.length != 0 && !over;
        }

        void deal(int players, long seed) {
            long[] x = {seed};
            IntBinaryOperator draw = (below, unused) -> {
                x[0] = x[0] * 6364136223846793005L + 1442695040888963407L;
                return (int) (x[0] >>> 33) % below;
            };
            isles = new Isle[players];
            for (int p = 0; p < players; p++) {
                Isle isle = new Isle();
                for (int n = 0; n < 9; n++) {
                    isle.tiles[n / 3][n % 3] = new Tile(1 + draw.applyAsInt(15, 0), 0);
                }
                for (int t = 1; t <= 5; t++) {
                    int n = draw.applyAsInt(9, 0);
                    while (isle.at(n).treasure != 0) {
                        n = n == 8 ? 0 : n + 1;
                    }
                    isle.at(n).treasure = t;
                }
                int[] order = {1, 2, 3, 4, 5};
                for (int i = 4; i >= 1; i--) {
                    int j = draw.applyAsInt(i + 1, 0);
                    int t = order[i];
                    order[i] = order[j];
                    order[j] = t;
                }
                for (int t : order) {
                    isle.seeks.add(t);
                }
                isle.ship = isle.at(4);
                isles[p] = isle;
            }
            turn = 0;
            shifted = false;
            ended = 0;
            over = false;
            winner = -1;
        }

        long shift(long p, long line, long direction) {
            if (p < 0 || p >= isles.length || line < 0 || line > 5) {
                return BOUNDS;
            }
            if (direction != 0 && direction != 1) {
                return ARGUMENT;
            }
            Isle isle = isles[(int) p];
            if (over || shifted || p == turn || !isle.free((int) line, (int) direction)) {
                return STATE;
            }
            isle.slide((int) line, (int) direction);
            shifted = true;
            return Integer.bitCount(isle.set(settings[0]));
        }

        long go(long n) {
            if (n < 0 || n > 8) {
                return BOUNDS;
            }
            if (!running() || !shifted) {
                return STATE;
            }
            Isle own = isles[turn];
            if (own.distances()[own.shipPlace()][(int) n] > settings[0]) {
                return STATE;
            }
            own.ship = own.at((int) n);
            int taken = 0;
            if (!own.seeks.isEmpty() && own.ship.treasure == own.seeks.peek()) {
                taken = own.seeks.remove();
                own.ship.treasure = 0;
            }
            end();
            return taken;
        }

        long lock(long line) {
            if (line < 0 || line > 5) {
                return BOUNDS;
            }
            if (!running() || !shifted) {
                return STATE;
            }
            isles[turn].lock = (int) line;
            end();
            return over ? -1 : turn;
        }

        private void end() {
            shifted = false;
            ended++;
            if (isles[turn].taken() >= settings[1]) {
                over = true;
                winner = turn;
                return;
            }
            if (ended >= settings[2]) {
                over = true;
                return;
            }
            turn = (turn + 1) % isles.length;
            isles[turn].lock = -1;
        }

        /** The player, line and direction of the shift by rule. */
        int[] worst() {
            int[] best = {-1, -1, -1};
            if (!running() || shifted) {
                return best;
            }
            int least = 1000;
            for (int k = 0; k < isles.length * 12; k++) {
                int p = k / 12;
                int line = k % 12 / 2;
                if (p == turn || !isles[p].free(line, k % 2)) {
                    continue;
                }
                Isle after = isles[p].copy();
                after.slide(line, k % 2);
                int left = 100 * after.canTake(settings[0])
                        + Integer.bitCount(after.set(settings[0]));
                if (left < least) {
                    least = left;
                    best = new int[] {p, line, k % 2};
                }
            }
            return best;
        }

        long play() {
            if (!running()) {
                return STATE;
            }
            if (!shifted) {
                int[] worst = worst();
                shift(worst[0], worst[1], worst[2]);
            }
            Isle own = isles[turn];
            int goal = own.soughtPlace();
            if (own.canTake(settings[0]) == 1) {
                return go(goal);
            }
            for (int distance = 0; distance <= 4; distance++) {
                for (int n = 0; n < 9; n++) {
                    int rows = Math.max(n / 3, goal / 3) - Math.min(n / 3, goal / 3);
                    int columns = Math.max(n % 3, goal % 3) - Math.min(n % 3, goal % 3);
                    if (rows + columns == distance && Look.bit(own.set(settings[0]), n) == 1) {
                        return go(n);
                    }
                }
            }
            throw new AssertionError("no place at all");
        }

        boolean command(String d) {
            int a = d.charAt(1) - '0';
            int b = d.charAt(2) - '0';
            int c = d.charAt(3) - '0';
            if (d.matches("1...")) {
                return shift(a, b, c) >= 0;
            }
            if (d.matches("200.")) {
                return go(c) >= 0;
            }
            if (d.matches("300.")) {
                return lock(c) >= -1;
            }
            if (d.matches("4000")) {
                return play() >= 0;
            }
            if (d.matches("5[0-3][0-8]0")) {
                return a < isles.length && Look.bit(isles[a].set(settings[0]), b) == 1;
            }
            if (d.matches("6[0-3]0.")) {
                return a < isles.length && isles[a].taken() >= c;
            }
            if (d.matches("7[0-3][0-5]0")) {
                return a < isles.length && isles[a].lock == b;
            }
            if (d.matches("800[0-3]")) {
                return c < isles.length && !over && turn == c;
            }
            return d.matches("9...") && ended <= Integer.parseInt(d.substring(1));
        }
    }

    private final StringBuilder text = new StringBuilder();
    private Sea sea = new Sea();
    private final Deque<Sea> remembered = new ArrayDeque<>();
    private final Sea[] slots = new Sea[2];

    private long action(Sea before, long answer) {
        if (answer > BOUNDS) {
            remembered.push(before);
            if (remembered.size() > 14) {
                remembered.removeLast();
            }
        }
        return answer;
    }

    private boolean noPlayer(long p) {
        return p < 0 || p >= sea.isles.length;
    }

    long append(long c) {
        if (c < 0 || c > 255) {
            return ARGUMENT;
        }
        if (text.length() == 120) {
            return STATE;
        }
        return text.append((char) c).length();
    }

    long clearText() {
        int length = text.length();
        text.delete(0, length);
        return length;
    }

    long errorPosition() {
        for (int end = 1; end <= text.length(); end++) {
            Matcher matcher = GAME.matcher(text.substring(0, end));
            if (!matcher.matches() && !matcher.hitEnd()) {
                return end - 1;
            }
        }
        return GAME.matcher(text).matches() ? -1 : text.length();
    }

    long load() {
        if (!GAME.matcher(text).matches()) {
            return STATE;
        }
        sea = new Sea();
        sea.deal(text.charAt(1) - '0', Long.parseLong(text.substring(2, 4)));
        int left = 0;
        for (String move : text.substring(4).split("(?=[sgl])")) {
            if (move.isEmpty()) {
                continue;
            }
            int a = move.charAt(1) - '0';
            long answer;
            if (move.charAt(0) == 's') {
                answer = sea.shift(a, move.charAt(2) - '0', move.endsWith("+") ? 1 : 0);
            } else {
                answer = move.charAt(0) == 'g' ? sea.go(a) : sea.lock(a);
            }
            left += answer <= BOUNDS ? 1 : 0;
        }
        remembered.clear();
        slots[0] = null;
        slots[1] = null;
        return left;
    }

    long about(long what) {
        if (what < 0 || what > 5) {
            return ARGUMENT;
        }
        long[] answers = {sea.isles.length, sea.over ? -1 : sea.turn, sea.shifted ? 1 : 0,
            sea.ended, sea.over ? 1 : 0, sea.winner};
        return answers[(int) what];
    }

    long tile(long p, long n, long what) {
        if (noPlayer(p) || n < 0 || n > 8) {
            return BOUNDS;
        }
        if (what < 0 || what > 2) {
            return ARGUMENT;
        }
        Isle isle = sea.isles[(int) p];
        Tile tile = isle.at((int) n);
        return what == 0 ? tile.openings : what == 1 ? tile.treasure : tile == isle.ship ? 1 : 0;
    }

    long player(long p, long what) {
        if (noPlayer(p)) {
            return BOUNDS;
        }
        if (what < 0 || what > 8) {
            return ARGUMENT;
        }
        Isle isle = sea.isles[(int) p];
        long[] answers = {isle.shipPlace(), isle.taken(), isle.sought(), isle.soughtPlace(),
            isle.lock, isle.line, isle.direction, isle.set(sea.settings[0]),
            isle.canTake(sea.settings[0])};
        return answers[(int) what];
    }

    long setting(long what) {
        return what < 0 || what > 2 ? ARGUMENT : sea.settings[(int) what];
    }

    long begin(long players, long seed) {
        if (players < 2 || players > 4) {
            return ARGUMENT;
        }
        Sea before = sea.copy();
        sea.deal((int) players, seed);
        return action(before, sea.isles[0].sought());
    }

    long shift(long p, long line, long direction) {
        return action(sea.copy(), sea.shift(p, line, direction));
    }

    long go(long n) {
        return action(sea.copy(), sea.go(n));
    }

    long lock(long line) {
        return action(sea.copy(), sea.lock(line));
    }

    long play() {
        return action(sea.copy(), sea.play());
    }

    long set(long what, long v) {
        int[] most = {9, 5, 200};
        if (what < 0 || what > 2 || v < 1 || v > most[(int) what]) {
            return ARGUMENT;
        }
        Sea before = sea.copy();
        sea.settings[(int) what] = (int) v;
        return action(before, before.settings[(int) what]);
    }

    long undo() {
        if (remembered.isEmpty()) {
            return STATE;
        }
        sea = remembered.pop();
        return remembered.size();
    }

    long canShift(long p, long line, long direction) {
        if (noPlayer(p) || line < 0 || line > 5) {
            return BOUNDS;
        }
        if (direction < 0 || direction > 1) {
            return ARGUMENT;
        }
        return sea.isles[(int) p].free((int) line, (int) direction) ? 1 : 0;
    }

    long ifShifted(long p, long line, long direction, long what) {
        if (noPlayer(p) || line < 0 || line > 5) {
            return BOUNDS;
        }
        if (direction < 0 || direction > 1 || what < 0 || what > 1) {
            return ARGUMENT;
        }
        Isle after = sea.isles[(int) p].copy();
        after.slide((int) line, (int) direction);
        return what == 0 ? after.set(sea.settings[0]) : after.canTake(sea.settings[0]);
    }

    long worstShift(long what) {
        return what < 0 || what > 2 ? ARGUMENT : sea.worst()[(int) what];
    }

    long steps(long p, long n) {
        if (noPlayer(p) || n < 0 || n > 8) {
            return BOUNDS;
        }
        Isle isle = sea.isles[(int) p];
        int steps = isle.distances()[isle.shipPlace()][(int) n];
        return steps >= 1000 ? -1 : steps;
    }

    long goesOn(long what) {
        if (what < 0 || what > 2) {
            return ARGUMENT;
        }
        if (sea.isles.length == 0) {
            return -1;
        }
        Sea copy = sea.copy();
        while (!copy.over) {
            copy.play();
        }
        return what == 0 ? copy.winner : what == 1 ? copy.ended : copy.taken();
    }

    long runScript(long n, long script) {
        if (n < 1 || n > 3 || script < 0 || Long.toString(script).length() > 4 * n) {
            return ARGUMENT;
        }
        String digits = "000000000000".substring(0, (int) (4 * n)) + script;
        digits = digits.substring(digits.length() - (int) (4 * n));
        Sea copy = sea.copy();
        for (int i = 0; i < n; i++) {
            if (!copy.command(digits.substring(4 * i, 4 * i + 4))) {
                return i;
            }
        }
        return -1;
    }

    long simulate(long seed, long m) {
        if (m < 1 || m > 80) {
            return ARGUMENT;
        }
        Sea copy = sea.copy();
        long y = seed;
        for (int i = 0; i < m && copy.running(); i++) {
            y = y * 6364136223846793005L + 1442695040888963407L;
            int r = (int) (y >>> 33);
            if (!copy.shifted) {
                if (copy.shift(r % 4, r / 4 % 6, r / 32 % 2) < 0) {
                    copy.play();
                }
            } else if (r % 8 == 0) {
                copy.lock(r / 8 % 6);
            } else if (copy.go(r / 8 % 9) < 0) {
                copy.play();
            }
        }
        return 1000L * copy.taken() + copy.ended;
    }

    long save(long slot) {
        if (slot < 0 || slot > 1) {
            return BOUNDS;
        }
        slots[(int) slot] = sea.copy();
        return sea.isles.length;
    }

    long restore(long slot) {
        if (slot < 0 || slot > 1) {
            return BOUNDS;
        }
        if (slots[(int) slot] == null) {
            return STATE;
        }
        sea = slots[(int) slot].copy();
        remembered.clear();
        return sea.isles.length;
    }
}
