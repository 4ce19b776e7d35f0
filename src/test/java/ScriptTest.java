/** Promises 22 and 23: scripts and simulations. */
public final class ScriptTest {
    public static void main(String[] args) {
        arguments();
        order();
        shifts();
        goes();
        locks();
        plays();
        questions();
        nonsense();
        withoutGame();
        everyCommand();
        commandsOnCopy();
        digits();
        simulateFails();
        simulateAsPlayed();
        simulateEachMove();
        simulateOver();
        Check.end();
    }

    private static void script(ShiftIsles x, int n, long script, int due) {
        String before = Look.at(x);
        Check.eq("runScript(" + n + ", " + script + ")", x.runScript(n, script), due);
        Check.same("nothing is changed", Look.at(x), before);
    }

    private static void arguments() {
        Check.sentence("Throws IllegalArgumentException if n is out of range, or if script is negative or"
                + " has more than 4 * n digits");
        ShiftIsles x = Look.game(3, 2026);
        Check.fails("no commands", x, Check.ARGUMENT, () -> x.runScript(0, 0));
        Check.fails("four commands", x, Check.ARGUMENT, () -> x.runScript(4, 0));
        Check.fails("n negative", x, Check.ARGUMENT, () -> x.runScript(-1, 0));
        Check.fails("negative", x, Check.ARGUMENT, () -> x.runScript(1, -1));
        Check.fails("most negative", x, Check.ARGUMENT, () -> x.runScript(3, Long.MIN_VALUE));
        Check.fails("five digits", x, Check.ARGUMENT, () -> x.runScript(1, 10000));
        Check.fails("nine digits", x, Check.ARGUMENT, () -> x.runScript(2, 100000000));
        Check.fails("13 digits", x, Check.ARGUMENT, () -> x.runScript(3, 1000000000000L));
        Check.fails("19 digits", x, Check.ARGUMENT, () -> x.runScript(3, Long.MAX_VALUE));
        Check.sentence("A script has 1 to 3 commands");
        script(x, 1, 9999, -1);
        script(x, 2, 99999999, -1);
        script(x, 3, 999999999999L, -1);
        script(x, 1, 0, 0);
        script(x, 3, 0, 0);
    }

    private static void order() {
        ShiftIsles x = Look.game(3, 2026);
        Check.sentence("Returns the index, from 0, of the first command that fails; NONE if all succeed.");
        script(x, 3, 900080008001L, 2);
        script(x, 3, 900080018000L, 1);
        script(x, 3, 800190008000L, 0);
        script(x, 2, 8000, 0);
        script(x, 2, 90008000, -1);
        script(x, 2, 40008001, -1);
    }

    private static void shifts() {
        ShiftIsles x = Look.game(3, 2026);
        Check.sentence("1 p l d: shift(p, l, d).");
        script(x, 1, 1101, -1);
        script(x, 1, 1250, -1);
        Check.sentence("The commands 1 to 4 fail if the method would throw an exception");
        script(x, 1, 1001, 0);
        script(x, 1, 1301, 0);
        script(x, 1, 1160, 0);
        script(x, 1, 1102, 0);
        script(x, 2, 11011201, 1);
        x.shift(1, 0, 1);
        script(x, 1, 1201, 0);
        x.go(4);
        script(x, 1, 1001, -1);
        script(x, 1, 1101, 0);
        x.shift(0, 0, 0);
        x.go(4);
        script(x, 1, 1100, 0);
        script(x, 1, 1101, -1);
    }

    private static void goes() {
        ShiftIsles x = Look.game(3, 2026);
        Check.sentence("2 0 0 n: go(n).");
        script(x, 1, 2004, 0);
        script(x, 2, 11012004, -1);
        script(x, 2, 11012003, -1);
        script(x, 2, 11012005, 1);
        script(x, 2, 11012009, 1);
        script(x, 2, 11012014, 1);
        script(x, 2, 11012104, 1);
        script(x, 3, 110120046001L, -1);
        script(x, 3, 110120036001L, 2);
        script(x, 3, 110120048001L, -1);
    }

    private static void locks() {
        ShiftIsles x = Look.game(3, 2026);
        Check.sentence("3 0 0 l: lock(l).");
        script(x, 1, 3000, 0);
        script(x, 2, 11013005, -1);
        script(x, 2, 11013006, 1);
        script(x, 2, 11013015, 1);
        script(x, 2, 11013105, 1);
        script(x, 3, 110130057050L, -1);
        script(x, 3, 110130057040L, 2);
        script(x, 3, 110130051050L, 2);
    }

    private static void plays() {
        ShiftIsles x = Look.game(3, 2026);
        Check.sentence("4 0 0 0: play().");
        script(x, 1, 4000, -1);
        Check.sentence("(also one with another digit where a 0 is written)");
        script(x, 1, 4001, 0);
        script(x, 1, 4010, 0);
        script(x, 1, 4100, 0);
        Check.sentence("4 0 0 0: play().");
        script(x, 3, 400040008002L, -1);
        script(x, 3, 110140008001L, -1);
        x.set(1, 1);
        script(x, 2, 40004000, 1);
        script(x, 2, 40008001, 1);
        script(x, 2, 40008000, 1);
        x.play();
        script(x, 1, 4000, 0);
        script(x, 1, 1101, 0);
        script(x, 1, 8000, 0);
        script(x, 1, 5040, -1);
    }

    private static void questions() {
        ShiftIsles x = Look.game(3, 2026);
        Check.sentence("5 p n 0: succeeds if the ship of the player p can reach the place n.");
        int reach = x.player(2, 7);
        for (int n = 0; n < 9; n++) {
            script(x, 1, 5200 + 10 * n, Look.bit(reach, n) == 1 ? -1 : 0);
        }
        Check.sentence("commands with players, places or lines that do not exist fail");
        script(x, 1, 5290, 0);
        script(x, 1, 5340, 0);
        script(x, 1, 5241, 0);
        Check.sentence("5 p n 0: succeeds if the ship of the player p can reach the place n.");
        x.set(0, 1);
        script(x, 1, 5280, 0);
        x.set(0, 2);
        script(x, 1, 5280, -1);
        Check.sentence("6 p 0 n: succeeds if the player p has taken at least n treasures.");
        script(x, 1, 6000, -1);
        script(x, 1, 6001, 0);
        script(x, 1, 6300, 0);
        script(x, 1, 6010, 0);
        x.play();
        script(x, 1, 6001, -1);
        script(x, 1, 6002, 0);
        script(x, 1, 6009, 0);
        Check.sentence("8 0 0 p: succeeds if it is the turn of the player p.");
        script(x, 1, 8001, -1);
        script(x, 1, 8000, 0);
        script(x, 1, 8003, 0);
        script(x, 1, 8011, 0);
        script(x, 1, 8101, 0);
        Check.sentence("nnn is a decimal number.");
        script(x, 1, 9000, 0);
        script(x, 1, 9001, -1);
        script(x, 1, 9100, -1);
        x.shift(0, 0, 0);
        x.lock(3);
        Check.sentence("7 p l 0: succeeds if the line l of the player p is locked.");
        script(x, 1, 7130, -1);
        script(x, 1, 7131, 0);
        script(x, 1, 7120, 0);
        script(x, 1, 7030, 0);
        script(x, 1, 7330, 0);
        script(x, 1, 7160, 0);
        script(x, 1, 7190, 0);
        for (int i = 0; i < 30; i++) {
            x.play();
        }
        int ended = x.about(3);
        Check.sentence("9 n n n: succeeds if at most nnn turns have ended.");
        script(x, 1, 9000 + ended, -1);
        script(x, 1, 9000 + ended - 1, 0);
    }

    private static void nonsense() {
        ShiftIsles x = Look.game(3, 2026);
        Check.sentence("and so does any other group");
        for (int script = 0; script < 1000; script++) {
            Check.eq("runScript(1, " + script + ")", x.runScript(1, script), 0);
        }
    }

    private static void withoutGame() {
        ShiftIsles x = new ShiftIsles();
        Check.sentence("commands with players, places or lines that do not exist fail");
        long[] fail = {0, 1100, 2004, 3000, 4000, 5040, 6000, 7000, 8000};
        for (long script : fail) {
            script(x, 1, script, 0);
        }
        Check.sentence("9 n n n: succeeds if at most nnn turns have ended.");
        script(x, 1, 9000, -1);
        Check.fails("four commands", x, Check.ARGUMENT, () -> x.runScript(4, 0));
    }

    /** Each group of four digits, compared with the calls that it stands for. */
    private static void everyCommand() {
        ShiftIsles none = new ShiftIsles();
        ShiftIsles begun = Look.game(3, 2026);
        ShiftIsles shifted = Look.game(4, 4);
        shifted.shift(1, 1, 1);
        ShiftIsles later = Look.game(2, 6);
        later.set(1, 5);
        for (int turn = 0; turn < 9; turn++) {
            Look.kind(later);
        }
        later.shift(0, 3, later.canShift(0, 3, 1) ? 1 : 0);
        later.lock(4);
        ShiftIsles over = Look.game(3, 7);
        over.set(2, 12);
        for (int turn = 0; turn < 12; turn++) {
            Look.idle(over);
        }
        Check.eq("over", over.about(4), 1);
        for (ShiftIsles x : new ShiftIsles[] {none, begun, shifted, later, over}) {
            String before = Look.at(x);
            for (int command = 0; command < 10000; command++) {
                Check.sentence(WORDS[command / 1000]);
                boolean due = due(x, command / 1000, command / 100 % 10, command / 10 % 10, command % 10);
                Check.eq("runScript(1, " + command + ")", x.runScript(1, command), due ? -1 : 0);
            }
            Check.same("nothing is changed", Look.at(x), before);
        }
    }

    private static final String[] WORDS = {
        "and so does any other group", "1 p l d: shift(p, l, d).", "2 0 0 n: go(n).",
        "3 0 0 l: lock(l).", "4 0 0 0: play().",
        "5 p n 0: succeeds if the ship of the player p can reach the place n.",
        "6 p 0 n: succeeds if the player p has taken at least n treasures.",
        "7 p l 0: succeeds if the line l of the player p is locked.",
        "8 0 0 p: succeeds if it is the turn of the player p.",
        "9 n n n: succeeds if at most nnn turns have ended."};

    private static boolean due(ShiftIsles x, int a, int b, int c, int d) {
        boolean player = b < x.about(0);
        switch (a) {
            case 1:
                return goesThrough(x, () -> x.shift(b, c, d));
            case 2:
                return b == 0 && c == 0 && goesThrough(x, () -> x.go(d));
            case 3:
                return b == 0 && c == 0 && goesThrough(x, () -> x.lock(d));
            case 4:
                return b == 0 && c == 0 && d == 0 && goesThrough(x, x::play);
            case 5:
                return player && c <= 8 && d == 0 && Look.bit(x.player(b, 7), c) == 1;
            case 6:
                return player && c == 0 && x.player(b, 1) >= d;
            case 7:
                return player && c <= 5 && d == 0 && x.player(b, 4) == c;
            case 8:
                return b == 0 && c == 0 && d < x.about(0) && x.about(1) == d;
            case 9:
                return x.about(3) <= 100 * b + 10 * c + d;
            default:
                return false;
        }
    }

    private static boolean goesThrough(ShiftIsles x, Check.Call call) {
        try {
            call.answer();
        } catch (IndexOutOfBoundsException | IllegalArgumentException | IllegalStateException e) {
            return false;
        }
        x.undo();
        return true;
    }

    private static void commandsOnCopy() {
        Check.sentence("Runs a script on a copy of the state.");
        ShiftIsles x = Look.game(2, 6);
        x.set(2, 2);
        script(x, 3, 400080014000L, -1);
        script(x, 3, 400040008000L, 2);
        script(x, 3, 400040004000L, 2);
        script(x, 3, 400040009001L, 2);
        script(x, 3, 400040009002L, -1);
        script(x, 3, 110130037030L, -1);
        Check.eq("nothing is remembered of it", x.undo(), 1);
        Check.sentence("Returns the index, from 0, of the first command that fails");
        script(x, 3, 0L, 0);
        script(x, 3, 400000000000L, 1);
        script(x, 3, 400040000000L, 2);
        script(x, 3, 300040004000L, 0);
        Check.sentence("NONE if all succeed");
        script(x, 3, 400040004000L, -1);
    }

    private static void digits() {
        ShiftIsles x = Look.game(3, 2026);
        Check.sentence("the first command is the highest group of the number (with zeros before it, if"
                + " it has fewer digits)");
        script(x, 1, 400, 0);
        script(x, 2, 4000, 0);
        script(x, 2, 94000, 0);
        script(x, 3, 40004000L, 0);
        script(x, 3, 99999999999L, 0);
        script(x, 2, 40004000L, -1);
        Check.sentence("a number of at most 4 * n digits (0 or more)");
        for (int n = 1; n <= 3; n++) {
            int count = n;
            long most = n == 1 ? 9999 : n == 2 ? 99999999 : 999999999999L;
            script(x, n, most, -1);
            script(x, n, 0, 0);
            Check.fails("one digit more", x, Check.ARGUMENT, () -> x.runScript(count, most + 1));
            Check.fails("negative", x, Check.ARGUMENT, () -> x.runScript(count, -1));
        }
    }

    private static void simulateFails() {
        ShiftIsles x = new ShiftIsles();
        Check.sentence("Throws IllegalArgumentException if m is out of range");
        Check.fails("no moves", x, Check.ARGUMENT, () -> x.simulate(1, 0));
        Check.fails("81 moves", x, Check.ARGUMENT, () -> x.simulate(1, 81));
        Check.fails("m negative", x, Check.ARGUMENT, () -> x.simulate(1, -1));
        Check.sentence("0 without a game.");
        Check.eq("without a game", x.simulate(1, 80), 0);
        x.begin(2, 3);
        Check.sentence("number of moves, 1 to 80");
        Check.fails("no moves", x, Check.ARGUMENT, () -> x.simulate(1, 0));
        Check.fails("81 moves", x, Check.ARGUMENT, () -> x.simulate(1, 81));
    }

    /** Does the moves of a simulation as calls, and compares. */
    private static void simulateAsPlayed() {
        for (int i = 0; i < 300; i++) {
            ShiftIsles x = Look.game(2 + i % 3, i);
            x.set(1, 1 + i % 5);
            x.set(2, 5 + i % 50);
            if (i % 2 == 0) {
                x.shift(1, i % 6, 0);
            }
            long seed = i % 4 == 0 ? i * 0x9E3779B97F4A7C15L : i;
            int m = 1 + i % 80;
            String before = Look.at(x);
            int answer = x.simulate(seed, m);
            Check.sentence("Simulates m moves on a copy of the state");
            Check.same("nothing is changed", Look.at(x), before);
            long y = seed;
            for (int k = 0; k < m && x.about(4) == 0; k++) {
                y = y * 6364136223846793005L + 1442695040888963407L;
                move(x, (int) (y >>> 33));
            }
            int taken = 0;
            for (int p = 0; p < x.about(0); p++) {
                taken += x.player(p, 1);
            }
            Check.sentence("Returns 1000 * (the treasures that all have taken at the end, how many) + (the"
                    + " turns that have ended at the end)");
            Check.eq("simulate(" + seed + ", " + m + ")", answer, 1000 * taken + x.about(3));
            if (x.about(4) == 1) {
                Check.eq("simulate() when it is over", x.simulate(seed, m), answer);
            }
        }
    }

    /** All numbers of moves from 1 to 80, and each kind of move is among them. */
    private static void simulateEachMove() {
        int[] kinds = new int[5];
        for (int seed = 0; seed < 60; seed++) {
            ShiftIsles x = Look.game(2 + seed % 3, seed);
            x.set(1, 5);
            ShiftIsles moved = Look.game(2 + seed % 3, seed);
            moved.set(1, 5);
            long y = -seed;
            for (int m = 1; m <= 80 && moved.about(4) == 0; m++) {
                y = y * 6364136223846793005L + 1442695040888963407L;
                int r = (int) (y >>> 33);
                int kind = kind(moved, r);
                kinds[kind]++;
                Check.sentence(MOVES[kind]);
                move(moved, r);
                int taken = 0;
                for (int p = 0; p < moved.about(0); p++) {
                    taken += moved.player(p, 1);
                }
                Check.eq("simulate(" + -seed + ", " + m + ")", x.simulate(-seed, m),
                        1000 * taken + moved.about(3));
            }
        }
        for (int kind : kinds) {
            Check.yes("each kind of move is among them: " + kind, kind > 50);
        }
    }

    private static final String[] MOVES = {
        "If no line has been shifted in the turn: shift(r % 4, r / 4 % 6, r / 32 % 2), if it is possible",
        "otherwise play()", "If one has been: if r % 8 is 0, lock(r / 8 % 6)",
        "otherwise go(r / 8 % 9), if the ship can", "and if not, play()"};

    private static int kind(ShiftIsles x, int r) {
        if (x.about(2) == 0) {
            int p = r % 4;
            boolean possible = p < x.about(0) && p != x.about(1)
                    && x.canShift(p, r / 4 % 6, r / 32 % 2);
            return possible ? 0 : 1;
        }
        if (r % 8 == 0) {
            return 2;
        }
        return Look.bit(x.player(x.about(1), 7), r / 8 % 9) == 1 ? 3 : 4;
    }

    private static void simulateOver() {
        Check.sentence("nothing is done without a game, or when it is over");
        ShiftIsles x = new ShiftIsles();
        Check.eq("without a game, 1 move", x.simulate(3, 1), 0);
        Check.eq("without a game, 80 moves", x.simulate(3, 80), 0);
        x.begin(2, 6);
        x.set(2, 3);
        Check.eq("over on the way", x.simulate(3, 80) % 1000, 3);
        x.set(1, 1);
        while (x.about(4) == 0) {
            Look.kind(x);
        }
        int taken = x.player(0, 1) + x.player(1, 1);
        for (int m : new int[] {1, 2, 80}) {
            Check.eq("over", x.simulate(3, m), 1000 * taken + x.about(3));
        }
    }

    private static void move(ShiftIsles x, int r) {
        try {
            if (x.about(2) == 0) {
                x.shift(r % 4, r / 4 % 6, r / 32 % 2);
            } else if (r % 8 == 0) {
                x.lock(r / 8 % 6);
            } else {
                x.go(r / 8 % 9);
            }
        } catch (IndexOutOfBoundsException | IllegalStateException e) {
            x.play();
        }
    }
}
