/** The section SETTINGS of the document, sentence by sentence. */
public final class SettingsTest {
    private static final int[] FIRST = {4, 3, 60};
    private static final int[] MOST = {9, 5, 200};
    private static final String[] WORDS = {
        "0: the steps, 1 to 9, at first 4", "1: the treasures, 1 to 5, at first 3",
        "2: the turns, 1 to 200, at first 60"};

    public static void main(String[] args) {
        for (int what = 0; what < 3; what++) {
            range(what);
        }
        others();
        steps();
        noGameIsOver();
        noneBeginsAgain();
        withoutGame();
        Check.end();
    }

    private static void range(int what) {
        Check.sentence(WORDS[what]);
        ShiftIsles x = new ShiftIsles();
        Check.eq("at first", x.setting(what), FIRST[what]);
        int[] wrong = {0, MOST[what] + 1, -1, -FIRST[what], Integer.MAX_VALUE, Integer.MIN_VALUE};
        for (int v : wrong) {
            Check.fails("set(" + what + ", " + v + ")", x, Check.ARGUMENT, () -> x.set(what, v));
        }
        int previous = FIRST[what];
        for (int v = 1; v <= MOST[what]; v++) {
            Check.eq("set()", x.set(what, v), previous);
            Check.eq("setting()", x.setting(what), v);
            previous = v;
        }
        Check.eq("from the highest", x.set(what, 1), MOST[what]);
        for (int other = 0; other < 3; other++) {
            Check.eq("setting " + other, x.setting(other), other == what ? 1 : FIRST[other]);
        }
    }

    private static void others() {
        Check.sentence("Throws IllegalArgumentException if what or v is out of range");
        ShiftIsles x = Look.game(2, 1);
        for (int what : new int[] {-1, 3, Integer.MIN_VALUE, Integer.MAX_VALUE}) {
            Check.fails("set(" + what + ", 1)", x, Check.ARGUMENT, () -> x.set(what, 1));
            Check.fails("set(" + what + ", 0)", x, Check.ARGUMENT, () -> x.set(what, 0));
            Check.fails("setting(" + what + ")", x, Check.ARGUMENT, () -> x.setting(what));
        }
        Check.eq("only begin() is remembered", x.undo(), 0);
    }

    /** The steps hold for what ships can reach at once, on all boards. */
    private static void steps() {
        Check.sentence("0: the steps");
        ShiftIsles x = Look.game(4, 3);
        for (int v = 1; v <= 9; v++) {
            x.set(0, v);
            for (int p = 0; p < 4; p++) {
                Check.eq("in reach of " + p, x.player(p, 7), new Chart(x, p).reach(v));
                Check.eq("if shifted", x.ifShifted(p, 1, 1, 0), new Chart(x, p).shifted(1, 1).reach(v));
            }
        }
    }

    private static void noGameIsOver() {
        Check.sentence("Settings that are changed make no game over before a turn ends");
        ShiftIsles x = Look.seek(2, "0 can take one", y -> y.player(0, 3) == 4);
        Look.someShift(x);
        x.go(4);
        x.set(1, 1);
        Check.eq("over", x.about(4), 0);
        x.set(2, 1);
        Check.eq("over", x.about(4), 0);
        Check.eq("nobody has won", x.about(5), -1);
        Check.eq("whose turn", x.about(1), 1);
        Look.someShift(x);
        Check.eq("over in the turn", x.about(4), 0);
        Look.stay(x);
        Check.eq("over behind it", x.about(4), 1);
    }

    private static void noneBeginsAgain() {
        Check.sentence("and begin none again");
        ShiftIsles x = Look.seek(2, "0 can take one", y -> y.player(0, 3) == 4);
        x.set(1, 1);
        Look.someShift(x);
        x.go(4);
        x.set(1, 5);
        x.set(2, 200);
        Check.eq("over", x.about(4), 1);
        Check.eq("who has won", x.about(5), 0);
        Check.eq("whose turn", x.about(1), -1);
        Check.fails("play()", x, Check.STATE, x::play);
        ShiftIsles y = Look.game(3, 4);
        y.set(2, 2);
        Look.idle(y);
        Look.idle(y);
        Check.eq("over", y.about(4), 1);
        y.set(2, 3);
        Check.eq("over still", y.about(4), 1);
        Check.fails("shift()", y, Check.STATE, () -> y.shift(0, 1, 1));
    }

    private static void withoutGame() {
        Check.sentence("Begins a new game, whatever there is; the settings stay.");
        ShiftIsles x = new ShiftIsles();
        x.set(0, 1);
        x.set(1, 2);
        x.set(2, 3);
        x.begin(2, 9);
        Check.eq("setting 0", x.setting(0), 1);
        Check.eq("setting 1", x.setting(1), 2);
        Check.eq("setting 2", x.setting(2), 3);
        Check.eq("in reach", x.player(0, 7), new Chart(x, 0).reach(1));
    }
}
