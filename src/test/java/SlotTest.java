/** Promises 24 and 25: the save slots. */
public final class SlotTest {
    public static void main(String[] args) {
        save();
        restore();
        restoreWithoutGame();
        slotsAreTwo();
        Check.end();
    }

    private static void save() {
        ShiftIsles x = new ShiftIsles();
        Check.fails("save(-1)", x, Check.BOUNDS, () -> x.save(-1));
        Check.fails("save(2)", x, Check.BOUNDS, () -> x.save(2));
        Check.eq("save(0) without a game", x.save(0), 0);
        for (int players = 2; players <= 4; players++) {
            x.begin(players, 1);
            Check.eq("save(1)", x.save(1), players);
        }
        Check.eq("save() is no action", x.undo(), 2);
        Check.eq("undo() keeps the slot", x.restore(1), 4);
    }

    private static void restore() {
        ShiftIsles x = Look.game(3, 2026);
        Check.fails("restore(-1)", x, Check.BOUNDS, () -> x.restore(-1));
        Check.fails("restore(2)", x, Check.BOUNDS, () -> x.restore(2));
        Check.fails("restore(0)", x, Check.STATE, () -> x.restore(0));
        Check.fails("restore(1)", x, Check.STATE, () -> x.restore(1));
        Check.eq("these are no actions", x.undo(), 0);
        x.begin(3, 2026);
        x.set(0, 7);
        x.shift(1, 0, 1);
        x.lock(4);
        x.shift(2, 3, 0);
        String saved = Look.at(x);
        x.save(1);
        x.append('x');
        x.go(x.player(1, 0));
        x.play();
        x.set(2, 3);
        Check.fails("restore(0) then", x, Check.STATE, () -> x.restore(0));
        Check.eq("restore(1)", x.restore(1), 3);
        Check.same("as saved", Look.at(x), saved);
        Check.eq("the text stays", x.clearText(), 1);
        Check.fails("undo()", x, Check.STATE, x::undo);
        x.play();
        x.begin(2, 0);
        Check.eq("undo() of what came then", x.undo(), 1);
        Check.eq("the slot keeps it", x.restore(1), 3);
        Check.same("as saved", Look.at(x), saved);
        Check.fails("undo() again", x, Check.STATE, x::undo);
    }

    private static void restoreWithoutGame() {
        ShiftIsles x = new ShiftIsles();
        x.set(0, 2);
        String saved = Look.at(x);
        x.save(0);
        x.begin(4, 3);
        x.play();
        x.set(0, 5);
        Check.eq("restore(0)", x.restore(0), 0);
        Check.same("as saved", Look.at(x), saved);
        Check.fails("undo()", x, Check.STATE, x::undo);
    }

    private static void slotsAreTwo() {
        ShiftIsles x = Look.game(2, 7);
        String first = Look.at(x);
        x.save(0);
        x.begin(4, 8);
        String second = Look.at(x);
        x.save(1);
        x.begin(3, 9);
        Check.eq("restore(0)", x.restore(0), 2);
        Check.same("slot 0", Look.at(x), first);
        Check.eq("restore(1)", x.restore(1), 4);
        Check.same("slot 1", Look.at(x), second);
        x.save(0);
        x.play();
        Check.eq("restore(0) of a new one", x.restore(0), 4);
        Check.same("slot 0", Look.at(x), second);
    }
}
