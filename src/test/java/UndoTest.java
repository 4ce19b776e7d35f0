/** The section ACTIONS AND UNDO of the document, sentence by sentence. */
public final class UndoTest {
    public static void main(String[] args) {
        whatChanges();
        textIsNoState();
        slotsAreNoState();
        refusedCalls();
        alsoIfNothingChanges();
        undoIsNone();
        atMost14();
        oldestIsForgotten();
        manyTimesRound();
        loadAndRestore();
        otherCalls();
        overGames();
        Check.end();
    }

    /** Does the one of the actions with that number, and answers what there was before it. */
    private static String act(ShiftIsles x, int kind) {
        String before = Look.at(x);
        switch (kind) {
            case 0 -> x.begin(3, 2026);
            case 1 -> x.shift(1, 1, 1);
            case 2 -> x.go(4);
            case 3 -> x.play();
            case 4 -> x.shift(0, 4, 0);
            case 5 -> x.lock(2);
            case 6 -> x.set(2, 7);
            case 7 -> x.begin(4, 1);
            case 8 -> x.set(0, 1);
            default -> x.play();
        }
        return before;
    }

    private static void whatChanges() {
        Check.sentence("The methods in the section \"actions\" change the state, which consists of"
                + " everything but the text and the save slots.");
        ShiftIsles x = new ShiftIsles();
        String[] before = new String[10];
        for (int kind = 0; kind < 10; kind++) {
            before[kind] = act(x, kind);
            Check.no("something is different", before[kind].equals(Look.at(x)));
        }
        Check.sentence("Takes back the last action that is remembered. Returns how many states are"
                + " still remembered.");
        for (int kind = 9; kind >= 0; kind--) {
            Check.eq("undo() of " + kind, x.undo(), kind);
            Check.same("before " + kind, Look.at(x), before[kind]);
        }
        Check.sentence("Throws IllegalStateException if none is remembered");
        Check.fails("undo()", x, Check.STATE, x::undo);
        Check.fails("undo() in a new object", Check.STATE, () -> new ShiftIsles().undo());
    }

    private static void textIsNoState() {
        Check.sentence("everything but the text");
        ShiftIsles x = new ShiftIsles();
        Look.write(x, "I3");
        x.begin(2, 2);
        Look.write(x, "17");
        x.undo();
        Check.eq("what is appended then is kept", x.errorPosition(), -1);
        x.begin(2, 2);
        x.clearText();
        x.undo();
        Check.eq("what is cleared then stays away", x.clearText(), 0);
        Check.fails("these are no actions", x, Check.STATE, x::undo);
    }

    private static void slotsAreNoState() {
        Check.sentence("everything but the text and the save slots");
        ShiftIsles x = Look.game(2, 2);
        x.begin(3, 3);
        Check.eq("save(0)", x.save(0), 3);
        Check.eq("undo()", x.undo(), 1);
        Check.eq("the game of before", x.about(0), 2);
        Check.eq("the slot is kept", x.restore(0), 3);
    }

    private static void refusedCalls() {
        Check.sentence("Each call of one of them that does not throw an exception is an action");
        ShiftIsles x = Look.game(2, 2);
        Check.fails("begin()", Check.ARGUMENT, () -> x.begin(5, 2));
        Check.fails("shift() beside", Check.BOUNDS, () -> x.shift(2, 0, 0));
        Check.fails("shift() with 2", Check.ARGUMENT, () -> x.shift(1, 0, 2));
        Check.fails("shift() of the own board", Check.STATE, () -> x.shift(0, 0, 0));
        Check.fails("go()", Check.STATE, () -> x.go(4));
        Check.fails("go() beside", Check.BOUNDS, () -> x.go(9));
        Check.fails("lock()", Check.STATE, () -> x.lock(4));
        Check.fails("lock() beside", Check.BOUNDS, () -> x.lock(6));
        Check.fails("set()", Check.ARGUMENT, () -> x.set(0, 10));
        Check.eq("only begin() is remembered", x.undo(), 0);
        Check.fails("play()", Check.STATE, x::play);
        Check.fails("undo()", Check.STATE, x::undo);
    }

    private static void alsoIfNothingChanges() {
        Check.sentence("also if nothing becomes different");
        ShiftIsles x = new ShiftIsles();
        x.set(0, 4);
        x.set(1, 3);
        x.set(2, 60);
        Check.eq("undo()", x.undo(), 2);
        Check.eq("undo()", x.undo(), 1);
        Check.eq("undo()", x.undo(), 0);
        x.begin(2, 2);
        String begun = Look.at(x);
        x.begin(2, 2);
        Check.same("the same game", Look.at(x), begun);
        Check.eq("undo()", x.undo(), 1);
        Check.same("still the same game", Look.at(x), begun);
        Check.eq("undo()", x.undo(), 0);
        Check.eq("no game", x.about(0), 0);
    }

    private static void undoIsNone() {
        Check.sentence("(undo is none)");
        ShiftIsles x = new ShiftIsles();
        x.set(2, 10);
        x.set(2, 20);
        x.set(2, 30);
        Check.eq("undo()", x.undo(), 2);
        Check.eq("setting", x.setting(2), 20);
        Check.eq("undo() takes back one more", x.undo(), 1);
        Check.eq("setting", x.setting(2), 10);
        x.set(2, 40);
        Check.eq("undo() of the new one", x.undo(), 1);
        Check.eq("setting", x.setting(2), 10);
        Check.eq("undo()", x.undo(), 0);
        Check.eq("setting", x.setting(2), 60);
        Check.fails("undo()", x, Check.STATE, x::undo);
    }

    private static void atMost14() {
        Check.sentence("At most 14 states are remembered");
        ShiftIsles x = new ShiftIsles();
        for (int v = 1; v <= 14; v++) {
            x.set(2, v);
        }
        for (int left = 13; left >= 0; left--) {
            Check.eq("undo()", x.undo(), left);
            Check.eq("setting", x.setting(2), left == 0 ? 60 : left);
        }
        Check.fails("a 15th time", x, Check.STATE, x::undo);
    }

    private static void oldestIsForgotten() {
        Check.sentence("when one more is remembered, the oldest one is forgotten");
        ShiftIsles x = new ShiftIsles();
        for (int v = 1; v <= 15; v++) {
            x.set(2, v);
        }
        for (int left = 13; left >= 0; left--) {
            Check.eq("undo()", x.undo(), left);
            Check.eq("setting", x.setting(2), left + 1);
        }
        Check.fails("a 15th time", x, Check.STATE, x::undo);
        Check.eq("the first action stays", x.setting(2), 1);
    }

    private static void manyTimesRound() {
        Check.sentence("when one more is remembered, the oldest one is forgotten");
        ShiftIsles x = new ShiftIsles();
        for (int v = 1; v <= 50; v++) {
            x.set(2, v);
        }
        for (int i = 0; i < 10; i++) {
            x.undo();
        }
        Check.eq("setting", x.setting(2), 40);
        for (int v = 101; v <= 112; v++) {
            x.set(2, v);
        }
        for (int left = 13; left >= 2; left--) {
            Check.eq("undo()", x.undo(), left);
            Check.eq("setting", x.setting(2), left == 2 ? 40 : left + 98);
        }
        Check.eq("undo()", x.undo(), 1);
        Check.eq("setting", x.setting(2), 39);
        Check.eq("undo()", x.undo(), 0);
        Check.eq("setting", x.setting(2), 38);
        Check.fails("undo()", x, Check.STATE, x::undo);
    }

    private static void loadAndRestore() {
        Check.sentence("load and restore are not actions.");
        ShiftIsles x = Look.text("I317s10+g4s00+l1");
        x.load();
        Check.fails("undo() behind load()", x, Check.STATE, x::undo);
        x.save(0);
        x.play();
        x.restore(0);
        Check.fails("undo() behind restore()", x, Check.STATE, x::undo);
        x.play();
        Check.eq("undo() of one action", x.undo(), 0);
    }

    private static void otherCalls() {
        Check.sentence("these and all following methods up to the save slots change nothing");
        ShiftIsles x = Look.game(3, 12);
        x.shift(1, 1, 1);
        String before = Look.at(x);
        x.append('I');
        x.clearText();
        x.canShift(1, 1, 0);
        x.ifShifted(2, 2, 1, 0);
        x.ifShifted(2, 2, 1, 1);
        x.worstShift(0);
        x.steps(0, 8);
        x.goesOn(0);
        x.runScript(3, 300140004000L);
        x.simulate(5, 80);
        x.save(1);
        Check.same("nothing is different", Look.at(x), before);
        Check.eq("undo() of shift()", x.undo(), 1);
        Check.eq("not shifted", x.about(2), 0);
        Check.eq("undo() of begin()", x.undo(), 0);
        Check.fails("undo()", x, Check.STATE, x::undo);
    }

    private static void overGames() {
        Check.sentence("Takes back the last action that is remembered.");
        ShiftIsles x = Look.seek(2, "0 can take one", y -> y.player(0, 3) == 4);
        x.set(1, 1);
        Look.someShift(x);
        String before = Look.at(x);
        int taken = x.go(4);
        Check.eq("who has won", x.about(5), 0);
        x.undo();
        Check.same("the game goes on", Look.at(x), before);
        Check.eq("nobody has won", x.about(5), -1);
        Check.eq("the treasure is there again", x.tile(0, 4, 1), taken);
        Check.eq("and can be taken", x.go(4), taken);
        x.begin(4, 4);
        x.undo();
        Check.eq("over again", x.about(4), 1);
        Check.eq("players", x.about(0), 2);
        Check.fails("no player 2", x, Check.BOUNDS, () -> x.player(2, 0));
    }
}
