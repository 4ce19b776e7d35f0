/** Promises 24 and 25: the save slots. */
public final class SlotTest {
    public static void main(String[] args) {
        save();
        restore();
        restoreWithoutGame();
        slotsAreTwo();
        anyState();
        sinceTheLastLoad();
        laterChanges();
        Check.end();
    }

    private static void save() {
        ShiftIsles x = new ShiftIsles();
        Check.sentence("Throws IndexOutOfBoundsException if there is no such save slot");
        Check.fails("save(-1)", x, Check.BOUNDS, () -> x.save(-1));
        Check.fails("save(2)", x, Check.BOUNDS, () -> x.save(2));
        Check.sentence("Returns the players, 0 without a game.");
        Check.eq("save(0) without a game", x.save(0), 0);
        for (int players = 2; players <= 4; players++) {
            x.begin(players, 1);
            Check.eq("save(1)", x.save(1), players);
        }
        Check.sentence("the state, which consists of everything but the text and the save slots");
        Check.eq("save() is no action", x.undo(), 2);
        Check.eq("undo() keeps the slot", x.restore(1), 4);
    }

    private static void restore() {
        ShiftIsles x = Look.game(3, 2026);
        Check.sentence("Throws IndexOutOfBoundsException if there is no such save slot");
        Check.fails("restore(-1)", x, Check.BOUNDS, () -> x.restore(-1));
        Check.fails("restore(2)", x, Check.BOUNDS, () -> x.restore(2));
        Check.sentence("Throws IllegalStateException if nothing has been saved in it since the last load");
        Check.fails("restore(0)", x, Check.STATE, () -> x.restore(0));
        Check.fails("restore(1)", x, Check.STATE, () -> x.restore(1));
        Check.eq("these are no actions", x.undo(), 0);
        Check.sentence("Replaces the state by the one in a save slot, and forgets all remembered states.");
        x.begin(3, 2026);
        x.set(0, 7);
        x.shift(1, 0, 1);
        x.lock(4);
        x.shift(2, 3, 0);
        String saved = Look.at(x);
        x.save(1);
        x.append('x');
        x.go(x.player(1, 0));
        x.play();
        x.set(2, 3);
        Check.fails("restore(0) then", x, Check.STATE, () -> x.restore(0));
        Check.eq("restore(1)", x.restore(1), 3);
        Check.same("as saved", Look.at(x), saved);
        Check.eq("the text stays", x.clearText(), 1);
        Check.fails("undo()", x, Check.STATE, x::undo);
        x.play();
        x.begin(2, 0);
        Check.eq("undo() of what came then", x.undo(), 1);
        Check.eq("the slot keeps it", x.restore(1), 3);
        Check.same("as saved", Look.at(x), saved);
        Check.fails("undo() again", x, Check.STATE, x::undo);
    }

    private static void restoreWithoutGame() {
        ShiftIsles x = new ShiftIsles();
        x.set(0, 2);
        String saved = Look.at(x);
        x.save(0);
        x.begin(4, 3);
        x.play();
        x.set(0, 5);
        Check.sentence("Returns the players then, 0 without a game.");
        Check.eq("restore(0)", x.restore(0), 0);
        Check.same("as saved", Look.at(x), saved);
        Check.fails("undo()", x, Check.STATE, x::undo);
    }

    private static void slotsAreTwo() {
        Check.sentence("Stores the present state in a save slot.");
        ShiftIsles x = Look.game(2, 7);
        String first = Look.at(x);
        x.save(0);
        x.begin(4, 8);
        String second = Look.at(x);
        x.save(1);
        x.begin(3, 9);
        Check.eq("restore(0)", x.restore(0), 2);
        Check.same("slot 0", Look.at(x), first);
        Check.eq("restore(1)", x.restore(1), 4);
        Check.same("slot 1", Look.at(x), second);
        x.save(0);
        x.play();
        Check.eq("restore(0) of a new one", x.restore(0), 4);
        Check.same("slot 0", Look.at(x), second);
    }

    /** Each kind of state comes back: no game, a turn, within a turn, with a lock, over. */
    private static void anyState() {
        Check.sentence("Replaces the state by the one in a save slot");
        ShiftIsles x = new ShiftIsles();
        String none = Look.at(x);
        ShiftIsles other = Look.game(4, 44);
        other.set(0, 9);
        other.set(1, 1);
        x.save(0);
        x.begin(4, 44);
        Check.eq("restore() of no game", x.restore(0), 0);
        Check.same("no game", Look.at(x), none);
        Check.fails("no player 0", x, Check.BOUNDS, () -> x.player(0, 0));
        x.begin(3, 33);
        for (int i = 0; i < 4; i++) {
            String saved = Look.at(x);
            Check.eq("save()", x.save(1), 3);
            x.begin(2, 22);
            x.set(0, 1);
            Look.idle(x);
            Check.eq("restore()", x.restore(1), 3);
            Check.same("state " + i, Look.at(x), saved);
            switch (i) {
                case 0 -> Look.someShift(x);
                case 1 -> x.lock(4);
                case 2 -> {
                    x.set(2, 2);
                    x.play();
                }
                default -> Check.eq("over", x.about(4), 1);
            }
        }
    }

    private static void sinceTheLastLoad() {
        Check.sentence("Throws IllegalStateException if nothing has been saved in it since the last load");
        ShiftIsles x = Look.text("I205");
        Check.fails("nothing at all", x, Check.STATE, () -> x.restore(0));
        x.save(0);
        Check.fails("nothing in the other one", x, Check.STATE, () -> x.restore(1));
        Check.eq("something in this one", x.restore(0), 0);
        x.load();
        Check.fails("nothing since load()", x, Check.STATE, () -> x.restore(0));
        x.save(1);
        x.begin(4, 4);
        Check.eq("begin() empties none", x.restore(1), 2);
        x.append('!');
        Check.fails("load() of what is no game", x, Check.STATE, x::load);
        Check.eq("which empties none", x.restore(1), 2);
        Check.fails("nor fills one", x, Check.STATE, () -> x.restore(0));
    }

    private static void laterChanges() {
        Check.sentence("The save slot keeps it.");
        ShiftIsles x = Look.game(3, 33);
        x.shift(1, 1, 1);
        String saved = Look.at(x);
        x.save(0);
        for (int i = 0; i < 3; i++) {
            x.play();
            x.set(0, 9);
            x.play();
            x.undo();
            Check.eq("restore()", x.restore(0), 3);
            Check.same("as saved", Look.at(x), saved);
        }
        Check.sentence("Stores the present state in a save slot.");
        x.play();
        String later = Look.at(x);
        x.save(0);
        x.play();
        x.restore(0);
        Check.same("the later one", Look.at(x), later);
        Check.sentence("and forgets all remembered states");
        for (int i = 0; i < 20; i++) {
            x.set(0, 1 + i % 9);
        }
        x.restore(0);
        Check.fails("undo()", x, Check.STATE, x::undo);
        x.set(0, 2);
        Check.eq("undo() of what came then", x.undo(), 0);
        Check.same("as restored", Look.at(x), later);
    }
}
