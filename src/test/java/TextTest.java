/** Promises 1 to 5: a new object, and the text. */
public final class TextTest {
    public static void main(String[] args) {
        newObject();
        append();
        clearText();
        errorPosition();
        load();
        loadMakesNew();
        loadThatFails();
        Check.end();
    }

    private static void newObject() {
        ShiftIsles x = new ShiftIsles();
        Check.sentence("Creates the sea without a game.");
        Check.same("a new object", Look.at(x), "text 0 about 0 about 0 about 0 about 0 about 0"
                + " about -1 setting 4 setting 3 setting 60");
        Check.eq("length of the text", x.clearText(), 0);
        Check.fails("undo()", x, Check.STATE, x::undo);
        Check.fails("restore(0)", x, Check.STATE, () -> x.restore(0));
        Check.fails("restore(1)", x, Check.STATE, () -> x.restore(1));
    }

    private static void append() {
        ShiftIsles x = new ShiftIsles();
        Check.sentence("Throws IllegalArgumentException if c is out of range");
        Check.fails("append(-1)", x, Check.ARGUMENT, () -> x.append(-1));
        Check.fails("append(256)", x, Check.ARGUMENT, () -> x.append(256));
        Check.sentence("Appends a character to the text buffer.");
        Check.eq("append(0)", x.append(0), 1);
        Check.eq("append(255)", x.append(255), 2);
        for (int length = 3; length <= 120; length++) {
            Check.eq("append('x')", x.append('x'), length);
        }
        Check.sentence("Throws IllegalStateException if the text already has 120 characters");
        Check.fails("append at 120", x, Check.STATE, () -> x.append('x'));
        Check.fails("append(256) at 120", x, Check.ARGUMENT, () -> x.append(256));
        Check.fails("append(-1) at 120", x, Check.ARGUMENT, () -> x.append(-1));
        Check.eq("length at last", x.clearText(), 120);
    }

    private static void clearText() {
        ShiftIsles x = Look.text("I200");
        Check.sentence("Empties the text buffer. Returns the previous length of the text.");
        Check.eq("clearText()", x.clearText(), 4);
        Check.eq("clearText() again", x.clearText(), 0);
        Check.eq("errorPosition()", x.errorPosition(), 0);
        Check.eq("append()", x.append('I'), 1);
    }

    private static void position(String text, int due) {
        Check.eq("errorPosition() of " + text, Look.text(text).errorPosition(), due);
    }

    private static void errorPosition() {
        Check.sentence("Returns the error position of the text; NONE if it is a game.");
        position("", 0);
        position("i", 0);
        position("2", 0);
        position("I", 1);
        position("I1", 1);
        position("I5", 1);
        position("Is", 1);
        position("I2", 2);
        position("I3", 2);
        position("I4", 2);
        position("I2/", 2);
        position("I2:", 2);
        position("I20", 3);
        position("I29:", 3);
        position("I20/", 3);
        position("I200", -1);
        position("I499", -1);
        position("I2000", 4);
        position("I200 ", 4);
        position("I200S", 4);
        position("I200s", 5);
        position("I200s4", 5);
        position("I200s/", 5);
        position("I200s3", 6);
        position("I200s06", 6);
        position("I200s0/", 6);
        position("I200s05", 7);
        position("I200s00*", 7);
        position("I200s00,", 7);
        position("I200s00.", 7);
        position("I200s00+", -1);
        position("I200s00-", -1);
        position("I200g", 5);
        position("I200g9", 5);
        position("I200g/", 5);
        position("I200g8", -1);
        position("I200g0", -1);
        position("I200l", 5);
        position("I200l6", 5);
        position("I200l/", 5);
        position("I200l5", -1);
        position("I200l0", -1);
        position("I317s35-g0l5g8s00+I", 18);
        position("I317s35-g0l5g8s00+ g9", 18);
        position("xxI200", 0);
        ShiftIsles high = Look.text("I200");
        high.append('g' + 128);
        Check.eq("a high character", high.errorPosition(), 4);
        ShiftIsles full = Look.text("I200" + "g0".repeat(58));
        Check.eq("errorPosition() of a full text", full.errorPosition(), -1);
    }

    private static void load() {
        Check.sentence("and then does the moves of the text");
        // The run of the shared tests: 8 moves of it are not possible.
        ShiftIsles x = Look.loaded("I417s10+g4s03-l1s35+g4s20-g5s11-g4s01+s05-l5s30-g1s22+g4g4");
        Check.eq("whose turn", x.about(1), 1);
        Check.eq("turns ended", x.about(3), 5);
        Check.eq("latest line of the board 0", x.player(0, 5), 3);
        ShiftIsles y = Look.text("I417s10+g4s03-l1s35+g4s20-g5s11-g4s01+s05-l5s30-g1s22+g4g4");
        Check.eq("load()", y.load(), 8);
        Check.eq("load() again", y.load(), 8);
        Check.same("the same game", Look.at(y), Look.at(x));
        Check.eq("the text is kept", y.clearText(), 58);

        ShiftIsles plain = Look.text("I307");
        Check.eq("load() without moves", plain.load(), 0);
        Check.same("the seed has two digits", Look.at(plain).replace("text -1", "text 0"),
                Look.at(Look.game(3, 7)));
        Look.write(plain, "s10+l5s20-g4");
        Check.eq("load() with four moves", plain.load(), 0);
        ShiftIsles done = Look.game(3, 7);
        done.shift(1, 0, 1);
        done.lock(5);
        done.shift(2, 0, 0);
        done.go(4);
        plain.clearText();
        Check.same("the moves are done", Look.at(plain), Look.at(done));
        ShiftIsles none = Look.text("I285s30+s00+g4l0s10+s15-g4");
        Check.eq("moves left out", none.load(), 5);
    }

    private static void loadMakesNew() {
        Check.sentence("Makes everything as in a new object");
        ShiftIsles x = Look.text("I250");
        x.begin(4, 8);
        x.set(0, 9);
        x.set(1, 5);
        x.set(2, 200);
        x.play();
        x.shift(0, 0, 0);
        x.save(0);
        x.save(1);
        Check.eq("load()", x.load(), 0);
        x.clearText();
        Check.same("as behind begin() on a new object", Look.at(x), Look.at(Look.game(2, 50)));
        Check.fails("undo()", x, Check.STATE, x::undo);
        Check.fails("restore(0)", x, Check.STATE, () -> x.restore(0));
        Check.fails("restore(1)", x, Check.STATE, () -> x.restore(1));
    }

    private static void loadThatFails() {
        Check.sentence("Throws IllegalStateException if the text is not a game");
        for (String text : new String[] {"", "I", "I20", "I200s", "I200g9", "I500", "I200 "}) {
            ShiftIsles x = Look.text(text);
            x.begin(4, 8);
            x.set(0, 7);
            x.play();
            x.save(1);
            Check.fails("load() of " + text, x, Check.STATE, x::load);
            Check.eq("undo() then", x.undo(), 2);
            Check.eq("restore() then", x.restore(1), 4);
            Check.eq("the text then", x.clearText(), text.length());
        }
    }
}
