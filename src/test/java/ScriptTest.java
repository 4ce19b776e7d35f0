/** Promises 22 and 23: scripts and simulations. */
public final class ScriptTest {
    public static void main(String[] args) {
        arguments();
        order();
        shifts();
        goes();
        locks();
        plays();
        questions();
        nonsense();
        withoutGame();
        simulateFails();
        simulateAsPlayed();
        Check.end();
    }

    private static void script(ShiftIsles x, int n, long script, int due) {
        String before = Look.at(x);
        Check.eq("runScript(" + n + ", " + script + ")", x.runScript(n, script), due);
        Check.same("nothing is changed", Look.at(x), before);
    }

    private static void arguments() {
        ShiftIsles x = Look.game(3, 2026);
        Check.fails("no commands", x, Check.ARGUMENT, () -> x.runScript(0, 0));
        Check.fails("four commands", x, Check.ARGUMENT, () -> x.runScript(4, 0));
        Check.fails("n negative", x, Check.ARGUMENT, () -> x.runScript(-1, 0));
        Check.fails("negative", x, Check.ARGUMENT, () -> x.runScript(1, -1));
        Check.fails("most negative", x, Check.ARGUMENT, () -> x.runScript(3, Long.MIN_VALUE));
        Check.fails("five digits", x, Check.ARGUMENT, () -> x.runScript(1, 10000));
        Check.fails("nine digits", x, Check.ARGUMENT, () -> x.runScript(2, 100000000));
        Check.fails("13 digits", x, Check.ARGUMENT, () -> x.runScript(3, 1000000000000L));
        Check.fails("19 digits", x, Check.ARGUMENT, () -> x.runScript(3, Long.MAX_VALUE));
        script(x, 1, 9999, -1);
        script(x, 2, 99999999, -1);
        script(x, 3, 999999999999L, -1);
        script(x, 1, 0, 0);
        script(x, 3, 0, 0);
    }

    private static void order() {
        ShiftIsles x = Look.game(3, 2026);
        script(x, 3, 900080008001L, 2);
        script(x, 3, 900080018000L, 1);
        script(x, 3, 800190008000L, 0);
        script(x, 2, 8000, 0);
        script(x, 2, 90008000, -1);
        script(x, 2, 40008001, -1);
    }

    private static void shifts() {
        ShiftIsles x = Look.game(3, 2026);
        script(x, 1, 1101, -1);
        script(x, 1, 1250, -1);
        script(x, 1, 1001, 0);
        script(x, 1, 1301, 0);
        script(x, 1, 1160, 0);
        script(x, 1, 1102, 0);
        script(x, 2, 11011201, 1);
        x.shift(1, 0, 1);
        script(x, 1, 1201, 0);
        x.go(4);
        script(x, 1, 1001, -1);
        script(x, 1, 1101, 0);
        x.shift(0, 0, 0);
        x.go(4);
        script(x, 1, 1100, 0);
        script(x, 1, 1101, -1);
    }

    private static void goes() {
        ShiftIsles x = Look.game(3, 2026);
        script(x, 1, 2004, 0);
        script(x, 2, 11012004, -1);
        script(x, 2, 11012003, -1);
        script(x, 2, 11012005, 1);
        script(x, 2, 11012009, 1);
        script(x, 2, 11012014, 1);
        script(x, 2, 11012104, 1);
        script(x, 3, 110120046001L, -1);
        script(x, 3, 110120036001L, 2);
        script(x, 3, 110120048001L, -1);
    }

    private static void locks() {
        ShiftIsles x = Look.game(3, 2026);
        script(x, 1, 3000, 0);
        script(x, 2, 11013005, -1);
        script(x, 2, 11013006, 1);
        script(x, 2, 11013015, 1);
        script(x, 2, 11013105, 1);
        script(x, 3, 110130057050L, -1);
        script(x, 3, 110130057040L, 2);
        script(x, 3, 110130051050L, 2);
    }

    private static void plays() {
        ShiftIsles x = Look.game(3, 2026);
        script(x, 1, 4000, -1);
        script(x, 1, 4001, 0);
        script(x, 1, 4010, 0);
        script(x, 1, 4100, 0);
        script(x, 3, 400040008002L, -1);
        script(x, 3, 110140008001L, -1);
        x.set(1, 1);
        script(x, 2, 40004000, 1);
        script(x, 2, 40008001, 1);
        script(x, 2, 40008000, 1);
        x.play();
        script(x, 1, 4000, 0);
        script(x, 1, 1101, 0);
        script(x, 1, 8000, 0);
        script(x, 1, 5040, -1);
    }

    private static void questions() {
        ShiftIsles x = Look.game(3, 2026);
        int reach = x.player(2, 7);
        for (int n = 0; n < 9; n++) {
            script(x, 1, 5200 + 10 * n, Look.bit(reach, n) == 1 ? -1 : 0);
        }
        script(x, 1, 5290, 0);
        script(x, 1, 5340, 0);
        script(x, 1, 5241, 0);
        x.set(0, 1);
        script(x, 1, 5280, 0);
        x.set(0, 2);
        script(x, 1, 5280, -1);
        script(x, 1, 6000, -1);
        script(x, 1, 6001, 0);
        script(x, 1, 6300, 0);
        script(x, 1, 6010, 0);
        x.play();
        script(x, 1, 6001, -1);
        script(x, 1, 6002, 0);
        script(x, 1, 6009, 0);
        script(x, 1, 8001, -1);
        script(x, 1, 8000, 0);
        script(x, 1, 8003, 0);
        script(x, 1, 8011, 0);
        script(x, 1, 8101, 0);
        script(x, 1, 9000, 0);
        script(x, 1, 9001, -1);
        script(x, 1, 9100, -1);
        x.shift(0, 0, 0);
        x.lock(3);
        script(x, 1, 7130, -1);
        script(x, 1, 7131, 0);
        script(x, 1, 7120, 0);
        script(x, 1, 7030, 0);
        script(x, 1, 7330, 0);
        script(x, 1, 7160, 0);
        script(x, 1, 7190, 0);
        for (int i = 0; i < 30; i++) {
            x.play();
        }
        int ended = x.about(3);
        script(x, 1, 9000 + ended, -1);
        script(x, 1, 9000 + ended - 1, 0);
    }

    private static void nonsense() {
        ShiftIsles x = Look.game(3, 2026);
        for (int script = 0; script < 1000; script++) {
            Check.eq("runScript(1, " + script + ")", x.runScript(1, script), 0);
        }
    }

    private static void withoutGame() {
        ShiftIsles x = new ShiftIsles();
        long[] fail = {0, 1100, 2004, 3000, 4000, 5040, 6000, 7000, 8000};
        for (long script : fail) {
            script(x, 1, script, 0);
        }
        script(x, 1, 9000, -1);
        Check.fails("four commands", x, Check.ARGUMENT, () -> x.runScript(4, 0));
    }

    private static void simulateFails() {
        ShiftIsles x = new ShiftIsles();
        Check.fails("no moves", x, Check.ARGUMENT, () -> x.simulate(1, 0));
        Check.fails("81 moves", x, Check.ARGUMENT, () -> x.simulate(1, 81));
        Check.fails("m negative", x, Check.ARGUMENT, () -> x.simulate(1, -1));
        Check.eq("without a game", x.simulate(1, 80), 0);
        x.begin(2, 3);
        Check.fails("no moves", x, Check.ARGUMENT, () -> x.simulate(1, 0));
        Check.fails("81 moves", x, Check.ARGUMENT, () -> x.simulate(1, 81));
    }

    /** Does the moves of a simulation as calls, and compares. */
    private static void simulateAsPlayed() {
        for (int i = 0; i < 300; i++) {
            ShiftIsles x = Look.game(2 + i % 3, i);
            x.set(1, 1 + i % 5);
            x.set(2, 5 + i % 50);
            if (i % 2 == 0) {
                x.shift(1, i % 6, 0);
            }
            long seed = i % 4 == 0 ? i * 0x9E3779B97F4A7C15L : i;
            int m = 1 + i % 80;
            String before = Look.at(x);
            int answer = x.simulate(seed, m);
            Check.same("nothing is changed", Look.at(x), before);
            long y = seed;
            for (int k = 0; k < m && x.about(4) == 0; k++) {
                y = y * 6364136223846793005L + 1442695040888963407L;
                move(x, (int) (y >>> 33));
            }
            int taken = 0;
            for (int p = 0; p < x.about(0); p++) {
                taken += x.player(p, 1);
            }
            Check.eq("simulate(" + seed + ", " + m + ")", answer, 1000 * taken + x.about(3));
            if (x.about(4) == 1) {
                Check.eq("simulate() when it is over", x.simulate(seed, m), answer);
            }
        }
    }

    private static void move(ShiftIsles x, int r) {
        try {
            if (x.about(2) == 0) {
                x.shift(r % 4, r / 4 % 6, r / 32 % 2);
            } else if (r % 8 == 0) {
                x.lock(r / 8 % 6);
            } else {
                x.go(r / 8 % 9);
            }
        } catch (IndexOutOfBoundsException | IllegalStateException e) {
            x.play();
        }
    }
}
