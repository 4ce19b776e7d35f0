import java.util.Random;

/**
 * Runs of drawn calls, each answered by ShiftIsles and by the Model; the draws are always the same.
 * Some runs are longer than the 512 calls that are promised, so that more games come to their end.
 */
public final class ModelTest {
    private static final int RUNS = 600;
    private static final int CALLS = 200;

    private final Random random;
    private final ShiftIsles real = new ShiftIsles();
    private final Model model = new Model();
    private final int wildness;

    private ModelTest(long seed) {
        random = new Random(seed);
        wildness = random.nextInt(4) == 0 ? 20 : 3;
    }

    public static void main(String[] args) {
        for (int run = 0; run < RUNS; run++) {
            new ModelTest(run).go("run " + run);
        }
        Check.end();
    }

    private void go(String name) {
        for (int i = 0; i < CALLS; i++) {
            one(name + " call " + i + " ");
        }
    }

    /** Mostly from the range, now and then beside it or far from it. */
    private int draw(int low, int high) {
        int kind = random.nextInt(100);
        if (kind >= wildness) {
            return low + random.nextInt(high - low + 1);
        }
        int[] wild = {low - 1, high + 1, Integer.MIN_VALUE, Integer.MAX_VALUE, -high - 1};
        return wild[random.nextInt(wild.length)];
    }

    private int person() {
        int players = real.about(0);
        return random.nextInt(20) == 0 || players == 0 ? draw(0, 3) : draw(0, players - 1);
    }

    /** A player whose board may be shifted now, as often as not. */
    private int other() {
        int players = real.about(0);
        if (players == 0 || random.nextInt(5) == 0) {
            return person();
        }
        return (real.about(1) + 1 + random.nextInt(players - 1) + players) % players;
    }

    private int place() {
        int players = real.about(0);
        int turn = real.about(1);
        if (players == 0 || turn < 0 || random.nextInt(5) == 0) {
            return draw(0, 8);
        }
        int set = real.player(turn, 7);
        for (int n = random.nextInt(9); n < 18; n++) {
            if (Look.bit(set, n % 9) == 1) {
                return n % 9;
            }
        }
        return 4;
    }

    private long seed() {
        return random.nextBoolean() ? random.nextInt(100) : random.nextLong();
    }

    private static long answer(Check.Call call) {
        try {
            return call.answer();
        } catch (RuntimeException e) {
            if (e.getClass() == Check.BOUNDS) {
                return Model.BOUNDS;
            }
            if (e.getClass() == Check.ARGUMENT) {
                return Model.ARGUMENT;
            }
            if (e.getClass() == Check.STATE) {
                return Model.STATE;
            }
            throw e;
        }
    }

    private void both(String what, Check.Call ours, Check.Call theirs) {
        Check.eq(what, answer(ours), theirs.answer());
    }

    private void one(String at) {
        int kind = random.nextInt(100);
        if (kind < 2) {
            text(at);
        } else if (kind < 45) {
            action(at);
        } else if (kind < 49) {
            slot(at);
        } else if (kind < 75) {
            look(at);
        } else {
            wouldBe(at);
        }
    }

    private void text(String at) {
        if (random.nextInt(3) != 0) {
            both(at + "clearText()", real::clearText, model::clearText);
        }
        String moves = "I" + (2 + random.nextInt(3)) + random.nextInt(10) + random.nextInt(10);
        int count = random.nextInt(40);
        for (int i = 0; i < count && moves.length() < 116; i++) {
            int move = random.nextInt(8);
            if (move < 4 && i % 2 == 0 || move == 0) {
                moves += "s" + random.nextInt(4) + random.nextInt(6) + (random.nextBoolean() ? "+" : "-");
            } else {
                moves += move < 7 ? "g" + random.nextInt(9) : "l" + random.nextInt(6);
            }
        }
        if (random.nextInt(3) == 0) {
            char[] signs = moves.toCharArray();
            signs[random.nextInt(signs.length)] = "I01234589sgl+-:/ ".charAt(random.nextInt(17));
            moves = new String(signs).substring(0, 1 + random.nextInt(signs.length));
        }
        for (int i = 0; i < moves.length(); i++) {
            int c = random.nextInt(500) == 0 ? draw(0, 255) : moves.charAt(i);
            both(at + "append(" + c + ")", () -> real.append(c), () -> model.append(c));
        }
        both(at + "errorPosition() of " + moves, real::errorPosition, model::errorPosition);
        both(at + "load() of " + moves, real::load, model::load);
        everything(at + "behind load() of " + moves + " ");
    }

    private void action(String at) {
        int kind = random.nextInt(20);
        if (kind < 1 || real.about(0) == 0 && kind < 10) {
            int players = draw(2, 4);
            long seed = seed();
            both(at + "begin(" + players + ", " + seed + ")",
                    () -> real.begin(players, seed), () -> model.begin(players, seed));
        } else if (kind < 9 && real.about(2) == 0 || kind == 9) {
            int p = other();
            int line = draw(0, 5);
            int way = draw(0, 1);
            both(at + "shift(" + p + ", " + line + ", " + way + ")",
                    () -> real.shift(p, line, way), () -> model.shift(p, line, way));
        } else if (kind < 13) {
            int n = place();
            both(at + "go(" + n + ")", () -> real.go(n), () -> model.go(n));
        } else if (kind < 15) {
            int line = draw(0, 5);
            both(at + "lock(" + line + ")", () -> real.lock(line), () -> model.lock(line));
        } else if (kind < 18) {
            both(at + "play()", real::play, model::play);
        } else if (kind < 19) {
            int what = draw(0, 2);
            int most = what == 0 ? 9 : what == 1 ? 5 : random.nextInt(20) == 0 ? 20 : 200;
            int v = draw(1, most);
            both(at + "set(" + what + ", " + v + ")",
                    () -> real.set(what, v), () -> model.set(what, v));
        } else {
            int times = random.nextInt(10) == 0 ? 16 : 1;
            for (int i = 0; i < times; i++) {
                both(at + "undo()", real::undo, model::undo);
            }
        }
        everything(at);
    }

    private void slot(String at) {
        int slot = draw(0, 1);
        if (random.nextBoolean()) {
            both(at + "save(" + slot + ")", () -> real.save(slot), () -> model.save(slot));
        } else {
            both(at + "restore(" + slot + ")", () -> real.restore(slot), () -> model.restore(slot));
        }
        everything(at);
    }

    private void look(String at) {
        int what = draw(0, 8);
        int p = person();
        int n = draw(0, 8);
        both(at + "about(" + what + ")", () -> real.about(what), () -> model.about(what));
        both(at + "setting(" + what + ")", () -> real.setting(what), () -> model.setting(what));
        both(at + "tile(" + p + ", " + n + ", " + what + ")",
                () -> real.tile(p, n, what), () -> model.tile(p, n, what));
        both(at + "player(" + p + ", " + what + ")",
                () -> real.player(p, what), () -> model.player(p, what));
    }

    private void wouldBe(String at) {
        int p = person();
        int line = draw(0, 5);
        int way = draw(0, 1);
        int n = draw(0, 8);
        int what = draw(0, 2);
        String shift = "(" + p + ", " + line + ", " + way + ")";
        both(at + "canShift" + shift,
                () -> real.canShift(p, line, way) ? 1 : 0, () -> model.canShift(p, line, way));
        both(at + "ifShifted" + shift + " " + what,
                () -> real.ifShifted(p, line, way, what), () -> model.ifShifted(p, line, way, what));
        both(at + "worstShift(" + what + ")",
                () -> real.worstShift(what), () -> model.worstShift(what));
        both(at + "steps(" + p + ", " + n + ")", () -> real.steps(p, n), () -> model.steps(p, n));
        if (random.nextInt(20) == 0) {
            both(at + "goesOn(" + what + ")", () -> real.goesOn(what), () -> model.goesOn(what));
        }
        int count = draw(1, 3);
        long script = script(count);
        both(at + "runScript(" + count + ", " + script + ")",
                () -> real.runScript(count, script), () -> model.runScript(count, script));
        if (random.nextInt(4) == 0) {
            int m = draw(1, 80);
            long seed = seed();
            both(at + "simulate(" + seed + ", " + m + ")",
                    () -> real.simulate(seed, m), () -> model.simulate(seed, m));
        }
    }

    private long script(int count) {
        if (random.nextInt(20) == 0) {
            return random.nextLong() >> random.nextInt(64);
        }
        long script = 0;
        for (int i = 0; i < count && i < 3; i++) {
            script = script * 10000 + command();
        }
        return script;
    }

    private int command() {
        int p = random.nextInt(20) == 0 ? random.nextInt(10) : Math.max(0, real.about(0) - 1);
        int who = p == 0 ? 0 : random.nextInt(p + 1);
        int line = random.nextInt(random.nextInt(10) == 0 ? 10 : 6);
        int n = random.nextInt(random.nextInt(10) == 0 ? 10 : 9);
        int noise = random.nextInt(15) == 0 ? random.nextInt(1000) : 0;
        switch (random.nextInt(10)) {
            case 0:
                return random.nextInt(10000);
            case 1:
                return (1000 + 100 * (random.nextInt(4) == 0 ? who : other() & 3) + 10 * line
                        + random.nextInt(random.nextInt(10) == 0 ? 10 : 2) + noise) % 10000;
            case 2:
                return 2000 + noise + (noise == 0 ? place() & 15 : 0) % 10;
            case 3:
                return 3000 + (noise == 0 ? line : noise);
            case 4:
                return 4000 + noise;
            case 5:
                return 5000 + 100 * who + 10 * n + noise % 10;
            case 6:
                return 6000 + 100 * who + noise % 100 + random.nextInt(3);
            case 7:
                int lock = real.about(0) > who ? real.player(who, 4) : -1;
                return 7000 + 100 * who + 10 * (lock >= 0 ? lock : line) + noise % 10;
            case 8:
                return 8000 + (noise == 0 ? who : noise);
            default:
                return 9000 + (random.nextBoolean() ? real.about(3) : random.nextInt(1000));
        }
    }

    /** Compares all that can be seen, now and then. */
    private void everything(String at) {
        both(at + "about(1)", () -> real.about(1), () -> model.about(1));
        both(at + "about(3)", () -> real.about(3), () -> model.about(3));
        if (random.nextInt(8) != 0) {
            return;
        }
        for (int what = 0; what < 6; what++) {
            int w = what;
            both(at + "about " + w, () -> real.about(w), () -> model.about(w));
            both(at + "setting " + w, () -> real.setting(w), () -> model.setting(w));
        }
        for (int p = 0; p < real.about(0); p++) {
            int who = p;
            for (int i = 0; i < 9; i++) {
                int n = i;
                both(at + "player " + p + " " + n,
                        () -> real.player(who, n), () -> model.player(who, n));
                both(at + "openings " + p + " " + n,
                        () -> real.tile(who, n, 0), () -> model.tile(who, n, 0));
                both(at + "treasure " + p + " " + n,
                        () -> real.tile(who, n, 1), () -> model.tile(who, n, 1));
                both(at + "ship " + p + " " + n,
                        () -> real.tile(who, n, 2), () -> model.tile(who, n, 2));
            }
        }
    }
}
