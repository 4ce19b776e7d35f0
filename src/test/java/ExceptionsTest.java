/**
 * The section EXCEPTIONS of the document: every call with arguments in and out of their ranges, also
 * several at once, without a game, at the beginning of a turn, in a turn and when the game is over.
 */
public final class ExceptionsTest {
    private static final int NO_GAME = 0;
    private static final int TURN_BEGINS = 1;
    private static final int IN_TURN = 2;
    private static final int OVER = 3;
    private static final int STATES = 4;

    private static final int[] PLAYERS = {-1, 0, 1, 2, 3, 4, Integer.MIN_VALUE, Integer.MAX_VALUE};
    private static final int[] SIXES = {-1, 0, 5, 6, Integer.MIN_VALUE, Integer.MAX_VALUE};
    private static final int[] NINES = {-1, 0, 4, 8, 9, Integer.MIN_VALUE, Integer.MAX_VALUE};
    private static final int[] TWOS = {-1, 0, 1, 2, Integer.MIN_VALUE, Integer.MAX_VALUE};
    private static final int[] THREES = {-1, 0, 2, 3, Integer.MIN_VALUE, Integer.MAX_VALUE};

    private static int state;
    private static ShiftIsles x;
    private static int refused;

    private static final String SEVERAL =
            "If several exceptions apply to a call, the one that its description names first is thrown.";
    private static String ifBounds;
    private static String ifArgument;
    private static String ifUnable;

    /** When the next calls throw, in the words of the document; null where they never do. */
    private static void throwsIf(String bounds, String argument, String unable) {
        ifBounds = bounds == null ? null : "Throws IndexOutOfBoundsException if " + bounds;
        ifArgument = argument == null ? null : "Throws IllegalArgumentException if " + argument;
        ifUnable = unable == null ? null : "Throws IllegalStateException if " + unable;
    }

    public static void main(String[] args) {
        for (state = 0; state < STATES; state++) {
            x = make();
            text();
            looks();
            shifts();
            turns();
            settings();
            wouldBe();
            scripts();
            slots();
            Check.sentence("A call that throws an exception changes nothing.");
            nothingIsChanged();
        }
        Check.yes("calls refused: " + refused, refused > 1000);
        Check.end();
    }

    /** Three players; 1 has locked the line 2; the latest shift of the board 2 is its line 4, 1. */
    private static ShiftIsles make() {
        ShiftIsles made = new ShiftIsles();
        Look.write(made, "I3" + "x".repeat(118));
        made.save(1);
        made.set(0, 9);
        if (state == NO_GAME) {
            return made;
        }
        made.begin(3, 5);
        made.shift(2, 4, 1);
        made.lock(3);
        made.shift(0, 1, 0);
        made.lock(2);
        made.set(2, state == OVER ? 3 : 60);
        if (state != TURN_BEGINS) {
            made.shift(0, 5, 1);
        }
        if (state == OVER) {
            made.lock(1);
            Check.eq("over", made.about(4), 1);
        }
        return made;
    }

    private static boolean noPlayer(int p) {
        return p < 0 || p >= (state == NO_GAME ? 0 : 3);
    }

    private static boolean out(int value, int most) {
        return value < 0 || value > most;
    }

    /** If an exception is due, the call is made on x; if not, on another object like it. */
    private static void call(String what, boolean bounds, boolean argument, boolean unable, Made made) {
        Class<? extends RuntimeException> due =
                bounds ? Check.BOUNDS : argument ? Check.ARGUMENT : unable ? Check.STATE : null;
        String where = "state " + state + " " + what;
        Check.sentence(words(bounds, argument, unable));
        if (due != null) {
            refused++;
            Check.fails(where, x, due, () -> made.on(x));
            return;
        }
        String thrown = "nothing";
        try {
            made.on(make());
        } catch (RuntimeException e) {
            thrown = e.toString();
        }
        Check.same(where + " throws", thrown, "nothing");
    }

    /** The words that a call is about; a call that does not throw, about the first of them. */
    private static String words(boolean bounds, boolean argument, boolean unable) {
        int applying = (bounds ? 1 : 0) + (argument ? 1 : 0) + (unable ? 1 : 0);
        if (applying > 1) {
            return SEVERAL;
        }
        if (applying == 1) {
            return bounds ? ifBounds : argument ? ifArgument : ifUnable;
        }
        return ifBounds != null ? ifBounds : ifArgument != null ? ifArgument : ifUnable;
    }

    interface Made {
        long on(ShiftIsles x);
    }

    private static void text() {
        throwsIf(null, "c is out of range", "the text already has 120 characters");
        for (int c : new int[] {-1, 0, 255, 256, Integer.MIN_VALUE, Integer.MAX_VALUE}) {
            call("append(" + c + ")", false, out(c, 255), true, y -> y.append(c));
        }
        throwsIf(null, null, "the text is not a game");
        call("load()", false, false, true, ShiftIsles::load);
    }

    private static void looks() {
        throwsIf(null, "what is not 0 to 5", null);
        for (int what : new int[] {-1, 0, 5, 6, Integer.MIN_VALUE, Integer.MAX_VALUE}) {
            call("about(" + what + ")", false, out(what, 5), false, y -> y.about(what));
        }
        throwsIf(null, "what is out of range", null);
        for (int what : THREES) {
            call("setting(" + what + ")", false, out(what, 2), false, y -> y.setting(what));
        }
        for (int p : PLAYERS) {
            throwsIf("there is no such player", "what is not 0 to 8", null);
            for (int what : NINES) {
                call("player(" + p + ", " + what + ")", noPlayer(p), out(what, 8), false,
                        y -> y.player(p, what));
            }
            throwsIf("there is no such player or place", "what is not 0 to 2", null);
            for (int n : NINES) {
                call("steps(" + p + ", " + n + ")", noPlayer(p) || out(n, 8), false, false,
                        y -> y.steps(p, n));
                for (int what : THREES) {
                    call("tile(" + p + ", " + n + ", " + what + ")", noPlayer(p) || out(n, 8),
                            out(what, 2), false, y -> y.tile(p, n, what));
                }
            }
        }
    }

    private static void shifts() {
        throwsIf("there is no such player or line", "direction is out of range",
                "the game is over, a line has been shifted in this turn, it is the own board, or"
                + " the shift is not possible");
        for (int p : PLAYERS) {
            for (int line : new int[] {-1, 0, 2, 4, 5, 6, Integer.MIN_VALUE, Integer.MAX_VALUE}) {
                for (int way : TWOS) {
                    boolean impossible = p == 1 && line == 2 || p == 2 && line == 4 && way == 0;
                    call("shift(" + p + ", " + line + ", " + way + ")", noPlayer(p) || out(line, 5),
                            out(way, 1), state != TURN_BEGINS || p == 2 || impossible,
                            y -> y.shift(p, line, way));
                }
            }
        }
    }

    private static void turns() {
        throwsIf("there is no such place", null, "there is no game, it is over, no line has been"
                + " shifted in this turn, or the ship cannot go there");
        for (int n : NINES) {
            boolean far = state == IN_TURN && !out(n, 8) && Look.bit(x.player(2, 7), n) == 0;
            call("go(" + n + ")", out(n, 8), false, state != IN_TURN || far, y -> y.go(n));
        }
        throwsIf("there is no such line", null,
                "there is no game, it is over, or no line has been shifted in this turn");
        for (int line : SIXES) {
            call("lock(" + line + ")", out(line, 5), false, state != IN_TURN, y -> y.lock(line));
        }
        throwsIf(null, "players is out of range", "there is no game, or it is over");
        call("play()", false, false, state == NO_GAME || state == OVER, ShiftIsles::play);
        for (int players : new int[] {-1, 0, 1, 2, 4, 5, Integer.MIN_VALUE, Integer.MAX_VALUE}) {
            call("begin(" + players + ", -1)", false, players < 2 || players > 4, false,
                    y -> y.begin(players, -1));
        }
    }

    private static void settings() {
        throwsIf(null, "what or v is out of range", null);
        int[] most = {9, 5, 200};
        for (int what : new int[] {-1, 0, 1, 2, 3, Integer.MIN_VALUE, Integer.MAX_VALUE}) {
            for (int v : new int[] {-1, 0, 1, 5, 6, 9, 10, 200, 201, Integer.MIN_VALUE,
                Integer.MAX_VALUE}) {
                boolean wrong = out(what, 2) || v < 1 || v > most[what];
                call("set(" + what + ", " + v + ")", false, wrong, false, y -> y.set(what, v));
            }
        }
    }

    private static void wouldBe() {
        for (int p : PLAYERS) {
            for (int line : SIXES) {
                for (int way : TWOS) {
                    boolean bounds = noPlayer(p) || out(line, 5);
                    throwsIf("there is no such player or line", "direction is out of range", null);
                    String arguments = p + ", " + line + ", " + way;
                    call("canShift(" + arguments + ")", bounds, out(way, 1), false,
                            y -> y.canShift(p, line, way) ? 1 : 0);
                    throwsIf("there is no such player or line", "direction or what is out of range", null);
                    for (int what : TWOS) {
                        call("ifShifted(" + arguments + ", " + what + ")", bounds,
                                out(way, 1) || out(what, 1), false,
                                y -> y.ifShifted(p, line, way, what));
                    }
                }
            }
        }
        throwsIf(null, "what is not 0 to 2", null);
        for (int what : THREES) {
            call("worstShift(" + what + ")", false, out(what, 2), false, y -> y.worstShift(what));
            call("goesOn(" + what + ")", false, out(what, 2), false, y -> y.goesOn(what));
        }
    }

    private static void scripts() {
        throwsIf(null, "n is out of range, or if script is negative or has more than 4 * n digits",
                null);
        for (int n : new int[] {-1, 0, 1, 2, 3, 4, Integer.MIN_VALUE, Integer.MAX_VALUE}) {
            for (long script : new long[] {Long.MIN_VALUE, -1, 0, 9999, 10000, 99999999, 100000000,
                999999999999L, 1000000000000L, 4294967296L, Long.MAX_VALUE}) {
                boolean wrong = n < 1 || n > 3 || script < 0
                        || Long.toString(script).length() > 4 * n;
                call("runScript(" + n + ", " + script + ")", false, wrong, false,
                        y -> y.runScript(n, script));
            }
        }
        throwsIf(null, "m is out of range", null);
        for (int m : new int[] {-1, 0, 1, 80, 81, Integer.MIN_VALUE, Integer.MAX_VALUE}) {
            call("simulate(-1, " + m + ")", false, m < 1 || m > 80, false, y -> y.simulate(-1, m));
        }
    }

    private static void slots() {
        throwsIf("there is no such save slot", null,
                "nothing has been saved in it since the last load");
        for (int slot : TWOS) {
            call("save(" + slot + ")", out(slot, 1), false, false, y -> y.save(slot));
            call("restore(" + slot + ")", out(slot, 1), false, slot == 0, y -> y.restore(slot));
        }
    }

    /** What cannot be seen at once: the text, the states that are remembered, and the slots. */
    private static void nothingIsChanged() {
        ShiftIsles twin = make();
        Check.eq("the text", x.clearText(), twin.clearText());
        int left = state == NO_GAME ? 1 : state == TURN_BEGINS ? 7 : state == IN_TURN ? 8 : 9;
        for (int i = left - 1; i >= 0; i--) {
            Check.eq("undo()", x.undo(), i);
            twin.undo();
            Check.same("what was remembered", Look.at(x), Look.at(twin));
        }
        Check.fails("undo()", x, Check.STATE, x::undo);
        Check.fails("the slot 0", x, Check.STATE, () -> x.restore(0));
        Check.eq("the slot 1", x.restore(1), 0);
        Check.eq("as it was saved", x.setting(0), 4);
    }
}
