/**
 * A game of islands on boards of nine tiles, in which each player shifts a row or a column of
 * another player's board, and then goes with the own ship or locks a line of the own board.
 */
public final class ShiftIsles {
    public static final int NONE = -1;

    private static final int TILES = 9;
    private static final int LINES = 6;
    private static final int TREASURES = 5;
    private static final int FEWEST_PLAYERS = 2;
    private static final int MOST_PLAYERS = 4;
    private static final int TEXT_LIMIT = 120;
    private static final int REMEMBERED = 14;
    private static final int SLOTS = 2;
    private static final int MOST_MOVES = 80;
    private static final int MOST_COMMANDS = 3;
    private static final int GROUP = 10000;

    private static final int STEPS = 0;
    private static final int GOAL = 1;
    private static final int TURNS = 2;
    private static final int SETTINGS = 3;
    private static final int MOST_TURNS = 200;
    private static final int[] FIRST_SETTINGS = {4, 3, 60};
    private static final int[] LOWEST_SETTINGS = {1, 1, 1};
    private static final int[] HIGHEST_SETTINGS = {9, 5, MOST_TURNS};

    private final Text text;
    private final Game state;
    private final Game trial;
    private final Rule rule;
    private final Draws draws;
    private final Memory memory;
    private final Game[] slots;
    private final boolean[] saved;

    /** Creates the sea without a game. */
    public ShiftIsles() {
        text = new Text();
        state = new Game();
        trial = new Game();
        rule = new Rule();
        draws = new Draws();
        memory = new Memory();
        slots = new Game[SLOTS];
        saved = new boolean[SLOTS];
        for (int i = 0; i < SLOTS; i++) {
            slots[i] = new Game();
        }
    }

    // ---- text

    /** Appends a character to the text buffer; returns the new length. */
    public int append(int c) throws IllegalArgumentException, IllegalStateException {
        if (c < 0 || c > 255) {
            throw new IllegalArgumentException("a character code is 0 to 255");
        }
        if (text.isFull()) {
            throw new IllegalStateException("the text is full");
        }
        return text.add((char) c);
    }

    /** Empties the text buffer; returns the previous length. */
    public int clearText() {
        return text.empty();
    }

    /** Returns the error position of the text; NONE if it is a game. */
    public int errorPosition() {
        return text.wrongAt();
    }

    /** Begins the game of the text and does its moves; returns how many are left out. */
    public int load() throws IllegalStateException {
        if (text.wrongAt() != NONE) {
            throw new IllegalStateException("the text is not a game");
        }
        state.resetSettings();
        draws.startWith(text.seed());
        state.deal(text.players(), draws);
        int leftOut = 0;
        for (int i = 0; i < text.length(); i++) {
            if (text.isMoveAt(i) && !doMoveAt(i)) {
                leftOut++;
            }
        }
        memory.forget();
        for (int i = 0; i < SLOTS; i++) {
            saved[i] = false;
        }
        return leftOut;
    }

    /** Does the move of the text that begins there; false if it is not possible. */
    private boolean doMoveAt(int i) {
        char letter = text.signAt(i);
        int first = text.digitAt(i + 1);
        if (letter == 's') {
            int direction = text.signAt(i + 3) == '+' ? 1 : 0;
            return state.tryShift(first, text.digitAt(i + 2), direction);
        }
        return letter == 'g' ? state.tryGo(first) : state.tryLock(first);
    }

    // ---- what there is

    public int about(int what) throws IllegalArgumentException {
        switch (what) {
            case 0:
                return state.players();
            case 1:
                return state.whoseTurn();
            case 2:
                return state.isShifted() ? 1 : 0;
            case 3:
                return state.ended();
            case 4:
                return state.isOver() ? 1 : 0;
            case 5:
                return state.winner();
            default:
                throw new IllegalArgumentException("what is 0 to 5");
        }
    }

    public int tile(int p, int n, int what)
            throws IndexOutOfBoundsException, IllegalArgumentException {
        if (!state.hasPlayer(p) || !isPlace(n)) {
            throw new IndexOutOfBoundsException("no such player or place");
        }
        Board board = state.boardOf(p);
        switch (what) {
            case 0:
                return board.openingsAt(n);
            case 1:
                return board.treasureAt(n);
            case 2:
                return board.ship() == n ? 1 : 0;
            default:
                throw new IllegalArgumentException("what is 0 to 2");
        }
    }

    public int player(int p, int what) throws IndexOutOfBoundsException, IllegalArgumentException {
        if (!state.hasPlayer(p)) {
            throw new IndexOutOfBoundsException("no such player");
        }
        Board board = state.boardOf(p);
        switch (what) {
            case 0:
                return board.ship();
            case 1:
                return board.taken();
            case 2:
                return board.sought();
            case 3:
                return board.soughtPlace();
            case 4:
                return board.lockedLine();
            case 5:
                return board.lastLine();
            case 6:
                return board.lastDirection();
            case 7:
                return board.reach(state.settingOf(STEPS));
            case 8:
                return isIn(board.reach(state.settingOf(STEPS)), board.soughtPlace()) ? 1 : 0;
            default:
                throw new IllegalArgumentException("what is 0 to 8");
        }
    }

    public int setting(int what) throws IllegalArgumentException {
        if (!isSetting(what)) {
            throw new IllegalArgumentException("what is 0 to 2");
        }
        return state.settingOf(what);
    }

    // ---- actions

    /** Begins a new game; returns the treasure that the player 0 seeks. */
    public int begin(int players, long seed) throws IllegalArgumentException {
        if (players < FEWEST_PLAYERS || players > MOST_PLAYERS) {
            throw new IllegalArgumentException("there are 2 to 4 players");
        }
        memory.remember(state);
        draws.startWith(seed);
        state.deal(players, draws);
        return state.boardOf(0).sought();
    }

    /** Shifts a line of another player's board; returns how many places its ship can reach. */
    public int shift(int p, int line, int direction)
            throws IndexOutOfBoundsException, IllegalArgumentException, IllegalStateException {
        if (!state.hasPlayer(p) || !isLine(line)) {
            throw new IndexOutOfBoundsException("no such player or line");
        }
        if (!isDirection(direction)) {
            throw new IllegalArgumentException("a direction is 0 or 1");
        }
        if (!state.mayShift(p, line, direction)) {
            throw new IllegalStateException("this shift is not possible now");
        }
        memory.remember(state);
        state.shiftLine(p, line, direction);
        return Integer.bitCount(state.boardOf(p).reach(state.settingOf(STEPS)));
    }

    /** Goes with the own ship, or stays, and ends the turn; returns the treasure taken, or 0. */
    public int go(int n) throws IndexOutOfBoundsException, IllegalStateException {
        if (!isPlace(n)) {
            throw new IndexOutOfBoundsException("no such place");
        }
        if (!state.mayGo(n)) {
            throw new IllegalStateException("the ship cannot go there now");
        }
        memory.remember(state);
        return state.goTo(n);
    }

    /** Locks a line of the own board and ends the turn; returns whose turn it is then. */
    public int lock(int line) throws IndexOutOfBoundsException, IllegalStateException {
        if (!isLine(line)) {
            throw new IndexOutOfBoundsException("no such line");
        }
        if (!state.mayEndTurn()) {
            throw new IllegalStateException("nothing can be locked now");
        }
        memory.remember(state);
        state.lockLine(line);
        return state.whoseTurn();
    }

    /** Plays by rule what is left of the turn; returns the treasure taken, or 0. */
    public int play() throws IllegalStateException {
        if (!state.isRunning()) {
            throw new IllegalStateException("there is no game, or it is over");
        }
        memory.remember(state);
        return rule.finishTurn(state);
    }

    /** Changes a setting; returns the previous one. */
    public int set(int what, int v) throws IllegalArgumentException {
        if (!isSetting(what) || v < LOWEST_SETTINGS[what] || v > HIGHEST_SETTINGS[what]) {
            throw new IllegalArgumentException("no such setting, or not in its range");
        }
        memory.remember(state);
        return state.changeSetting(what, v);
    }

    /** Takes back the last action that is remembered; returns how many states still are. */
    public int undo() throws IllegalStateException {
        if (memory.count() == 0) {
            throw new IllegalStateException("no state is remembered");
        }
        memory.recall(state);
        return memory.count();
    }

    // ---- what would be

    /** Tells whether a shift of a board is possible, whoever's turn it is. */
    public boolean canShift(int p, int line, int direction)
            throws IndexOutOfBoundsException, IllegalArgumentException {
        if (!state.hasPlayer(p) || !isLine(line)) {
            throw new IndexOutOfBoundsException("no such player or line");
        }
        if (!isDirection(direction)) {
            throw new IllegalArgumentException("a direction is 0 or 1");
        }
        return state.boardOf(p).allows(line, direction);
    }

    /** Tells what a shift of a board would leave, whether it is possible, or not. */
    public int ifShifted(int p, int line, int direction, int what)
            throws IndexOutOfBoundsException, IllegalArgumentException {
        if (!state.hasPlayer(p) || !isLine(line)) {
            throw new IndexOutOfBoundsException("no such player or line");
        }
        if (!isDirection(direction) || what < 0 || what > 1) {
            throw new IllegalArgumentException("a direction is 0 or 1, and so is what");
        }
        trial.copyFrom(state);
        Board board = trial.boardOf(p);
        board.moveLine(line, direction);
        int reach = board.reach(trial.settingOf(STEPS));
        if (what == 0) {
            return reach;
        }
        return isIn(reach, board.soughtPlace()) ? 1 : 0;
    }

    /** Finds the shift by rule for the player whose turn it is. */
    public int worstShift(int what) throws IllegalArgumentException {
        if (what < 0 || what > 2) {
            throw new IllegalArgumentException("what is 0 to 2");
        }
        rule.chooseShift(state);
        switch (what) {
            case 0:
                return rule.chosenPlayer();
            case 1:
                return rule.chosenLine();
            default:
                return rule.chosenDirection();
        }
    }

    /** Tells how many steps a ship needs to a place; NONE if it can't get there. */
    public int steps(int p, int n) throws IndexOutOfBoundsException {
        if (!state.hasPlayer(p) || !isPlace(n)) {
            throw new IndexOutOfBoundsException("no such player or place");
        }
        return state.boardOf(p).stepsTo(n);
    }

    /** Tells how the game would end, if all played by rule from now on. */
    public int goesOn(int what) throws IllegalArgumentException {
        if (what < 0 || what > 2) {
            throw new IllegalArgumentException("what is 0 to 2");
        }
        if (state.players() == 0) {
            return NONE;
        }
        trial.copyFrom(state);
        for (int i = 0; i < MOST_TURNS && trial.isRunning(); i++) {
            rule.finishTurn(trial);
        }
        switch (what) {
            case 0:
                return trial.winner();
            case 1:
                return trial.ended();
            default:
                return trial.takenByAll();
        }
    }

    // ---- scripts, simulations

    /** Runs a script on a copy of the state; returns which command fails first, or NONE. */
    public int runScript(int n, long script) throws IllegalArgumentException {
        if (n < 1 || n > MOST_COMMANDS) {
            throw new IllegalArgumentException("a script has 1 to 3 commands");
        }
        if (script < 0 || withoutLast(n, script) != 0) {
            throw new IllegalArgumentException("a script has four digits for a command");
        }
        trial.copyFrom(state);
        for (int i = 0; i < n; i++) {
            if (!succeeds((int) (withoutLast(n - 1 - i, script) % GROUP))) {
                return i;
            }
        }
        return NONE;
    }

    // Divides by a constant alone, so that no divisor can be 0.
    private static long withoutLast(int commands, long script) {
        long rest = script;
        for (int i = 0; i < commands; i++) {
            rest /= GROUP;
        }
        return rest;
    }

    /** Does a command of a script on the copy of the state; false if it fails. */
    private boolean succeeds(int command) {
        int second = command / 100 % 10;
        int third = command / 10 % 10;
        int last = command % 10;
        boolean onlyLast = second == 0 && third == 0;
        switch (command / 1000) {
            case 1:
                return trial.tryShift(second, third, last);
            case 2:
                return onlyLast && trial.tryGo(last);
            case 3:
                return onlyLast && trial.tryLock(last);
            case 4:
                return onlyLast && last == 0 && rule.finishTurn(trial) != NONE;
            case 5:
                return last == 0 && trial.reaches(second, third);
            case 6:
                return third == 0 && trial.hasPlayer(second)
                        && trial.boardOf(second).taken() >= last;
            case 7:
                return last == 0 && trial.hasPlayer(second) && isLine(third)
                        && trial.boardOf(second).lockedLine() == third;
            case 8:
                return onlyLast && trial.hasPlayer(last) && trial.whoseTurn() == last;
            case 9:
                return trial.ended() <= command % 1000;
            default:
                return false;
        }
    }

    /** Simulates m moves on a copy of the state; returns the treasures taken and turns ended. */
    public int simulate(long seed, int m) throws IllegalArgumentException {
        if (m < 1 || m > MOST_MOVES) {
            throw new IllegalArgumentException("there are 1 to 80 moves");
        }
        if (state.players() == 0) {
            return 0;
        }
        trial.copyFrom(state);
        draws.startWith(seed);
        for (int i = 0; i < m && trial.isRunning(); i++) {
            simulateMove(draws.next());
        }
        return 1000 * trial.takenByAll() + trial.ended();
    }

    private void simulateMove(int r) {
        if (!trial.isShifted()) {
            if (!trial.tryShift(r % 4, r / 4 % 6, r / 32 % 2)) {
                rule.finishTurn(trial);
            }
        } else if (r % 8 == 0) {
            trial.tryLock(r / 8 % 6);
        } else if (!trial.tryGo(r / 8 % 9)) {
            rule.finishTurn(trial);
        }
    }

    // ---- save slots

    /** Stores the present state in a save slot; returns the players. */
    public int save(int slot) throws IndexOutOfBoundsException {
        if (!isSlot(slot)) {
            throw new IndexOutOfBoundsException("a save slot is 0 or 1");
        }
        slots[slot].copyFrom(state);
        saved[slot] = true;
        return state.players();
    }

    /** Replaces the state by the one in a save slot; returns the players then. */
    public int restore(int slot) throws IndexOutOfBoundsException, IllegalStateException {
        if (!isSlot(slot)) {
            throw new IndexOutOfBoundsException("a save slot is 0 or 1");
        }
        if (!saved[slot]) {
            throw new IllegalStateException("nothing has been saved there");
        }
        state.copyFrom(slots[slot]);
        memory.forget();
        return state.players();
    }

    // ---- what there can be

    private static boolean isPlace(int n) {
        return n >= 0 && n < TILES;
    }

    private static boolean isIn(int set, int n) {
        return isPlace(n) && (set >> n & 1) == 1;
    }

    private static boolean isLine(int line) {
        return line >= 0 && line < LINES;
    }

    private static boolean isDirection(int direction) {
        return direction == 0 || direction == 1;
    }

    private static boolean isSetting(int what) {
        return what >= 0 && what < SETTINGS;
    }

    private static boolean isSlot(int slot) {
        return slot >= 0 && slot < SLOTS;
    }

    /** The numbers that are drawn, one after the other, from a seed. */
    private static final class Draws {
        private long x;

        void startWith(long seed) {
            x = seed;
        }

        /** The next number, never negative. */
        int next() {
            x = x * 6364136223846793005L + 1442695040888963407L;
            return (int) (x >>> 33);
        }

        int below(int n) {
            int r = next();
            return n > 0 ? r % n : 0;
        }
    }

    /** A player's board, with the ship on it and the treasures that are sought. */
    private static final class Board {
        private static final int UPWARDS = 1;
        private static final int RIGHTWARDS = 2;
        private static final int DOWNWARDS = 4;
        private static final int LEFTWARDS = 8;
        private static final int MIDDLE = 4;

        private final int[] openings;
        private final int[] treasures;
        private final int[] order;
        private int ship;
        private int taken;
        private int locked;
        private int lastLine;
        private int lastDirection;

        Board() {
            openings = new int[TILES];
            treasures = new int[TILES];
            order = new int[TREASURES];
        }

        void copyFrom(Board other) {
            System.arraycopy(other.openings, 0, openings, 0, TILES);
            System.arraycopy(other.treasures, 0, treasures, 0, TILES);
            System.arraycopy(other.order, 0, order, 0, TREASURES);
            ship = other.ship;
            taken = other.taken;
            locked = other.locked;
            lastLine = other.lastLine;
            lastDirection = other.lastDirection;
        }

        void deal(Draws draws) {
            for (int n = 0; n < TILES; n++) {
                openings[n] = 1 + draws.below(15);
                treasures[n] = 0;
            }
            for (int treasure = 1; treasure <= TREASURES; treasure++) {
                hide(treasure, draws.below(TILES));
            }
            for (int i = 0; i < TREASURES; i++) {
                order[i] = i + 1;
            }
            for (int i = TREASURES - 1; i >= 1; i--) {
                exchange(i, draws.below(i + 1));
            }
            ship = MIDDLE;
            taken = 0;
            locked = NONE;
            lastLine = NONE;
            lastDirection = NONE;
        }

        /** Puts a treasure on the first tile from there on, round the end, that has none. */
        private void hide(int treasure, int from) {
            for (int i = 0; i < TILES; i++) {
                int n = (from + i) % TILES;
                if (isPlace(n) && treasures[n] == 0) {
                    treasures[n] = treasure;
                    return;
                }
            }
        }

        private void exchange(int i, int j) {
            if (i < 0 || i >= TREASURES || j < 0 || j >= TREASURES) {
                return;
            }
            int kept = order[i];
            order[i] = order[j];
            order[j] = kept;
        }

        int openingsAt(int n) {
            return isPlace(n) ? openings[n] : 0;
        }

        int treasureAt(int n) {
            return isPlace(n) ? treasures[n] : 0;
        }

        int ship() {
            return ship;
        }

        int taken() {
            return taken;
        }

        int lockedLine() {
            return locked;
        }

        void lockOn(int line) {
            locked = line;
        }

        void unlock() {
            locked = NONE;
        }

        int lastLine() {
            return lastLine;
        }

        int lastDirection() {
            return lastDirection;
        }

        int sought() {
            return taken >= 0 && taken < TREASURES ? order[taken] : NONE;
        }

        int soughtPlace() {
            int treasure = sought();
            for (int n = 0; n < TILES; n++) {
                if (treasures[n] == treasure) {
                    return n;
                }
            }
            return NONE;
        }

        boolean allows(int line, int direction) {
            return line != locked && !(line == lastLine && direction != lastDirection);
        }

        void moveLine(int line, int direction) {
            if (!isLine(line)) {
                return;
            }
            int first = line < 3 ? line * 3 : line - 3;
            int stride = line < 3 ? 1 : 3;
            // On a line that goes round, one back is the same as two forwards.
            int ahead = direction == 1 ? 1 : 2;
            cycle(openings, first, stride, ahead);
            cycle(treasures, first, stride, ahead);
            moveShip(first, stride, ahead);
            lastLine = line;
            lastDirection = direction;
        }

        private static void cycle(int[] row, int first, int stride, int ahead) {
            int second = first + stride;
            int third = second + stride;
            if (first < 0 || first >= row.length || second < 0 || second >= row.length
                    || third < 0 || third >= row.length) {
                return;
            }
            for (int i = 0; i < ahead; i++) {
                int gone = row[third];
                row[third] = row[second];
                row[second] = row[first];
                row[first] = gone;
            }
        }

        private void moveShip(int first, int stride, int ahead) {
            for (int i = 0; i < 3; i++) {
                if (ship == first + i * stride) {
                    ship = first + (i + ahead) % 3 * stride;
                    return;
                }
            }
        }

        int reach(int most) {
            int across = openAcross();
            int down = openDown();
            int set = 1 << ship;
            for (int i = 0; i < most; i++) {
                set = widened(set, across, down);
            }
            return set;
        }

        /** The fewest steps of the ship to the place; NONE if there are none. */
        int stepsTo(int n) {
            int across = openAcross();
            int down = openDown();
            int set = 1 << ship;
            for (int i = 0; i < TILES; i++) {
                if (isIn(set, n)) {
                    return i;
                }
                set = widened(set, across, down);
            }
            return NONE;
        }

        // All places of a set are gone from at once, so that no ways need be kept.
        private static int widened(int set, int across, int down) {
            int beside = (set & across) << 1 | set >> 1 & across;
            int above = (set & down) << 3 | set >> 3 & down;
            return set | beside | above;
        }

        /** The places from which a ship can go to the right, and back, as a set. */
        private int openAcross() {
            int set = 0;
            for (int n = 0; n + 1 < TILES; n++) {
                if (n % 3 < 2 && (openings[n] & RIGHTWARDS) != 0
                        && (openings[n + 1] & LEFTWARDS) != 0) {
                    set |= 1 << n;
                }
            }
            return set;
        }

        /** The places from which a ship can go downwards, and back, as a set. */
        private int openDown() {
            int set = 0;
            for (int n = 0; n + 3 < TILES; n++) {
                if ((openings[n] & DOWNWARDS) != 0 && (openings[n + 3] & UPWARDS) != 0) {
                    set |= 1 << n;
                }
            }
            return set;
        }

        /** Puts the ship there, and takes the treasure if it is the sought one. */
        int landOn(int n) {
            if (!isPlace(n)) {
                return 0;
            }
            ship = n;
            int treasure = treasures[n];
            if (treasure == 0 || treasure != sought()) {
                return 0;
            }
            treasures[n] = 0;
            taken++;
            return treasure;
        }
    }

    /** A state: the settings, and the game if there is one. */
    private static final class Game {
        private final int[] settings;
        private final Board[] boards;
        private int players;
        private int turn;
        private boolean shifted;
        private int ended;
        private boolean over;
        private int winner;

        Game() {
            settings = new int[SETTINGS];
            System.arraycopy(FIRST_SETTINGS, 0, settings, 0, SETTINGS);
            boards = new Board[MOST_PLAYERS];
            for (int p = 0; p < MOST_PLAYERS; p++) {
                boards[p] = new Board();
            }
            winner = NONE;
        }

        void resetSettings() {
            System.arraycopy(FIRST_SETTINGS, 0, settings, 0, SETTINGS);
        }

        void copyFrom(Game other) {
            System.arraycopy(other.settings, 0, settings, 0, SETTINGS);
            for (int p = 0; p < MOST_PLAYERS; p++) {
                boards[p].copyFrom(other.boards[p]);
            }
            players = other.players;
            turn = other.turn;
            shifted = other.shifted;
            ended = other.ended;
            over = other.over;
            winner = other.winner;
        }

        void deal(int count, Draws draws) {
            players = count;
            turn = 0;
            shifted = false;
            ended = 0;
            over = false;
            winner = NONE;
            for (int p = 0; p < MOST_PLAYERS && p < count; p++) {
                boards[p].deal(draws);
            }
        }

        int players() {
            return players;
        }

        boolean hasPlayer(int p) {
            return p >= 0 && p < players;
        }

        Board boardOf(int p) {
            return boards[p >= 0 && p < MOST_PLAYERS ? p : 0];
        }

        int whoseTurn() {
            return over ? NONE : turn;
        }

        boolean isShifted() {
            return shifted;
        }

        int ended() {
            return ended;
        }

        boolean isOver() {
            return over;
        }

        int winner() {
            return winner;
        }

        boolean isRunning() {
            return players > 0 && !over;
        }

        int settingOf(int what) {
            return isSetting(what) ? settings[what] : 0;
        }

        int changeSetting(int what, int v) {
            if (!isSetting(what)) {
                return 0;
            }
            int previous = settings[what];
            settings[what] = v;
            return previous;
        }

        int takenByAll() {
            int sum = 0;
            for (int p = 0; p < players; p++) {
                sum += boardOf(p).taken();
            }
            return sum;
        }

        /** Whether the ship of the player can reach the place with the steps of a turn. */
        boolean reaches(int p, int n) {
            return hasPlayer(p) && isIn(boardOf(p).reach(settingOf(STEPS)), n);
        }

        boolean mayShift(int p, int line, int direction) {
            return isRunning() && !shifted && hasPlayer(p) && p != turn && isLine(line)
                    && isDirection(direction) && boardOf(p).allows(line, direction);
        }

        void shiftLine(int p, int line, int direction) {
            boardOf(p).moveLine(line, direction);
            shifted = true;
        }

        boolean tryShift(int p, int line, int direction) {
            if (!mayShift(p, line, direction)) {
                return false;
            }
            shiftLine(p, line, direction);
            return true;
        }

        boolean mayEndTurn() {
            return isRunning() && shifted;
        }

        boolean mayGo(int n) {
            return mayEndTurn() && reaches(turn, n);
        }

        int goTo(int n) {
            int treasure = boardOf(turn).landOn(n);
            endTurn();
            return treasure;
        }

        boolean tryGo(int n) {
            if (!mayGo(n)) {
                return false;
            }
            goTo(n);
            return true;
        }

        void lockLine(int line) {
            boardOf(turn).lockOn(line);
            endTurn();
        }

        boolean tryLock(int line) {
            if (!mayEndTurn() || !isLine(line)) {
                return false;
            }
            lockLine(line);
            return true;
        }

        private void endTurn() {
            shifted = false;
            ended++;
            if (boardOf(turn).taken() >= settingOf(GOAL)) {
                over = true;
                winner = turn;
            } else if (ended >= settingOf(TURNS)) {
                over = true;
            } else {
                turn = turn + 1 < players ? turn + 1 : 0;
                boardOf(turn).unlock();
            }
        }
    }

    private static final class Rule {
        // More than any shift can leave to a player, and than any place can be apart.
        private static final int ABOVE_ALL = 100;

        private final Board scratch;
        private int player;
        private int line;
        private int direction;
        private int leftByChosen;

        Rule() {
            scratch = new Board();
        }

        int chosenPlayer() {
            return player;
        }

        int chosenLine() {
            return line;
        }

        int chosenDirection() {
            return direction;
        }

        /** Plays what is left of the turn; returns the treasure, or 0; NONE if there is no turn. */
        int finishTurn(Game game) {
            if (!game.isRunning()) {
                return NONE;
            }
            if (chooseShift(game)) {
                game.shiftLine(player, line, direction);
            }
            return game.goTo(chooseTile(game));
        }

        /** Chooses the shift for this turn; NONE and false if none is due. */
        boolean chooseShift(Game game) {
            player = NONE;
            line = NONE;
            direction = NONE;
            leftByChosen = ABOVE_ALL;
            for (int p = 0; p < game.players(); p++) {
                for (int candidate = 0; candidate < LINES; candidate++) {
                    consider(game, p, candidate, 0);
                    consider(game, p, candidate, 1);
                }
            }
            return player != NONE;
        }

        /** Chooses this shift if it is possible, and worse for its board than all before. */
        private void consider(Game game, int p, int candidate, int way) {
            if (!game.mayShift(p, candidate, way)) {
                return;
            }
            scratch.copyFrom(game.boardOf(p));
            scratch.moveLine(candidate, way);
            int reach = scratch.reach(game.settingOf(STEPS));
            // The treasure outweighs all tiles, of which there are at most nine.
            int treasure = isIn(reach, scratch.soughtPlace()) ? TILES + 1 : 0;
            int left = treasure + Integer.bitCount(reach);
            if (left < leftByChosen) {
                leftByChosen = left;
                player = p;
                line = candidate;
                direction = way;
            }
        }

        /** The tile to go to: the sought treasure's, or the nearest to it that can be reached. */
        private int chooseTile(Game game) {
            Board own = game.boardOf(game.whoseTurn());
            int goal = own.soughtPlace();
            int reach = own.reach(game.settingOf(STEPS));
            int best = own.ship();
            int least = goal == NONE ? 0 : ABOVE_ALL;
            for (int n = 0; n < TILES; n++) {
                int distance = Math.abs(n / 3 - goal / 3) + Math.abs(n % 3 - goal % 3);
                if (isIn(reach, n) && distance < least) {
                    least = distance;
                    best = n;
                }
            }
            return best;
        }
    }

    /** The states before the latest actions, in a ring. */
    private static final class Memory {
        private final Game[] states;
        private int count;
        private int next;

        Memory() {
            states = new Game[REMEMBERED];
            for (int i = 0; i < REMEMBERED; i++) {
                states[i] = new Game();
            }
        }

        int count() {
            return count;
        }

        void forget() {
            count = 0;
        }

        void remember(Game state) {
            if (next >= 0 && next < REMEMBERED) {
                states[next].copyFrom(state);
            }
            next = next + 1 < REMEMBERED ? next + 1 : 0;
            count = Math.min(count + 1, REMEMBERED);
        }

        void recall(Game state) {
            next = next > 0 ? next - 1 : REMEMBERED - 1;
            count--;
            if (next < REMEMBERED) {
                state.copyFrom(states[next]);
            }
        }
    }

    /** The text buffer, and what its rules allow. */
    private static final class Text {
        // What is due at a place of the text.
        private static final int START = 0;
        private static final int PLAYERS = 1;
        private static final int TENS = 2;
        private static final int ONES = 3;
        private static final int MOVE = 4;
        private static final int SHIFT_PLAYER = 5;
        private static final int SHIFT_LINE = 6;
        private static final int SHIFT_SIGN = 7;
        private static final int GO_PLACE = 8;
        private static final int LOCK_LINE = 9;

        private final char[] signs;
        private int length;

        Text() {
            signs = new char[TEXT_LIMIT];
        }

        boolean isFull() {
            return length >= TEXT_LIMIT;
        }

        int add(char c) {
            if (length >= 0 && length < TEXT_LIMIT) {
                signs[length] = c;
                length++;
            }
            return length;
        }

        int empty() {
            int previous = length;
            length = 0;
            return previous;
        }

        int length() {
            return length;
        }

        char signAt(int i) {
            return i >= 0 && i < length && i < TEXT_LIMIT ? signs[i] : 0;
        }

        int digitAt(int i) {
            return signAt(i) - '0';
        }

        int players() {
            return digitAt(PLAYERS);
        }

        int seed() {
            return 10 * digitAt(TENS) + digitAt(ONES);
        }

        /** Whether a move begins there, in a text that is a game: it alone has these letters. */
        boolean isMoveAt(int i) {
            char c = signAt(i);
            return c == 's' || c == 'g' || c == 'l';
        }

        int wrongAt() {
            int due = START;
            for (int i = 0; i < length; i++) {
                due = dueAfter(due, signAt(i));
                if (due == NONE) {
                    return i;
                }
            }
            return due == MOVE ? NONE : length;
        }

        /** What is due behind a character; NONE if the character itself is not allowed. */
        private static int dueAfter(int due, char c) {
            switch (due) {
                case START:
                    return c == 'I' ? PLAYERS : NONE;
                case PLAYERS:
                    return c >= '2' && c <= '4' ? TENS : NONE;
                case TENS:
                    return c >= '0' && c <= '9' ? ONES : NONE;
                case ONES:
                    return c >= '0' && c <= '9' ? MOVE : NONE;
                case MOVE:
                    return dueAfterLetter(c);
                case SHIFT_PLAYER:
                    return c >= '0' && c <= '3' ? SHIFT_LINE : NONE;
                case SHIFT_LINE:
                    return c >= '0' && c <= '5' ? SHIFT_SIGN : NONE;
                case SHIFT_SIGN:
                    return c == '+' || c == '-' ? MOVE : NONE;
                case GO_PLACE:
                    return c >= '0' && c <= '8' ? MOVE : NONE;
                case LOCK_LINE:
                    return c >= '0' && c <= '5' ? MOVE : NONE;
                default:
                    return NONE;
            }
        }

        private static int dueAfterLetter(char c) {
            if (c == 's') {
                return SHIFT_PLAYER;
            }
            if (c == 'g') {
                return GO_PLACE;
            }
            return c == 'l' ? LOCK_LINE : NONE;
        }
    }
}
