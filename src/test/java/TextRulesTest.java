/** The section TEXT of the document, sentence by sentence, with promises 2 to 5. */
public final class TextRulesTest {
    public static void main(String[] args) {
        atMost120();
        codes();
        signsAtEachPlace();
        anyNumberOfMoves();
        endsTooSoon();
        firstWrongOne();
        players();
        seeds();
        movesAreDone();
        signs();
        leftOut();
        leftOutWhenOver();
        asInNewObject();
        notAGame();
        Check.end();
    }

    private static void atMost120() {
        Check.sentence("Returns the new length of the text.");
        Check.eq("append()", new ShiftIsles().append(' '), 1);
        Check.sentence("The object has a text buffer of at most 120 characters.");
        ShiftIsles x = new ShiftIsles();
        for (int length = 1; length <= 120; length++) {
            Check.eq("append()", x.append('g'), length);
        }
        Check.fails("one more", x, Check.STATE, () -> x.append('g'));
        Check.fails("and again", x, Check.STATE, () -> x.append(0));
        Check.eq("clearText()", x.clearText(), 120);
        Check.eq("clearText() of none", x.clearText(), 0);
        Check.eq("append() then", x.append('I'), 1);
        Check.eq("the new one is read", x.errorPosition(), 1);
    }

    private static void codes() {
        Check.sentence("character code, 0 to 255");
        ShiftIsles x = new ShiftIsles();
        for (int c : new int[] {-1, 256, -256, 'I' + 256, 'I' - 256, 65536 + 'I',
            Integer.MAX_VALUE, Integer.MIN_VALUE}) {
            Check.fails("append(" + c + ")", x, Check.ARGUMENT, () -> x.append(c));
        }
        Check.eq("nothing was appended", x.clearText(), 0);
        Check.eq("append(0)", x.append(0), 1);
        Check.eq("append(255)", x.append(255), 2);
    }

    /** Each of the 256 characters at each kind of place. */
    private static void signsAtEachPlace() {
        String[][] places = {
            {"", "I"}, {"I", "234"}, {"I2", "0123456789"}, {"I20", "0123456789"}, {"I200", "sgl"},
            {"I200s", "0123"}, {"I200s0", "012345"}, {"I200s00", "+-"}, {"I200g", "012345678"},
            {"I200l", "012345"}, {"I200g0", "sgl"}, {"I200l0", "sgl"}, {"I200s00+", "sgl"},
            {"I499s35-", "sgl"}, {"I499g8s", "0123"}, {"I499s35-l5g", "012345678"}};
        String wholes = "I[234][0-9][0-9](s[0-3][0-5][+-]|g[0-8]|l[0-5])*";
        Check.sentence("the index of the first character that these rules do not allow at its place");
        for (String[] place : places) {
            for (int c = 0; c < 256; c++) {
                String text = place[0] + (char) c;
                boolean allowed = place[1].indexOf(c) >= 0;
                int due = !allowed ? place[0].length() : text.matches(wholes) ? -1 : text.length();
                Check.eq(place[0] + " and " + c, Look.text(text).errorPosition(), due);
            }
        }
        Check.sentence("There are no blanks.");
        for (int i = 0; i <= 14; i++) {
            String text = "I317s10+g4l5g0";
            ShiftIsles x = Look.text(text.substring(0, i) + " " + text.substring(i));
            Check.eq("a blank at " + i, x.errorPosition(), i);
        }
    }

    private static void anyNumberOfMoves() {
        Check.sentence("and then any number of moves");
        Check.eq("none", Look.text("I300").errorPosition(), -1);
        for (int moves = 1; moves <= 58; moves++) {
            Check.eq("g, " + moves, Look.text("I300" + "g4".repeat(moves)).errorPosition(), -1);
            Check.eq("l, " + moves, Look.text("I300" + "l4".repeat(moves)).errorPosition(), -1);
        }
        for (int moves = 1; moves <= 29; moves++) {
            Check.eq("s, " + moves, Look.text("I300" + "s10+".repeat(moves)).errorPosition(), -1);
        }
        ShiftIsles full = Look.text("I300" + "g4".repeat(58));
        Check.fails("120 characters", Check.STATE, () -> full.append('g'));
        Check.eq("load() of 58 moves", full.load(), 58);
        ShiftIsles shifts = Look.text("I300" + "s10+".repeat(29));
        Check.eq("load() of 29 moves", shifts.load(), 28);
    }

    private static void endsTooSoon() {
        Check.sentence("if the text ends too soon, it is the length of the text");
        String text = "I317s10+g4l5s35-";
        String whole = "0001000101010001";
        Check.eq("the empty text", new ShiftIsles().errorPosition(), 0);
        for (int length = 1; length <= text.length(); length++) {
            boolean game = whole.charAt(length - 1) == '1' && length >= 4;
            Check.eq(text.substring(0, length), Look.text(text.substring(0, length)).errorPosition(),
                    game ? -1 : length);
        }
        Check.eq("120 characters, the last move cut off",
                Look.text("I300" + "g4".repeat(57) + "s1").errorPosition(), 120);
        Check.eq("119 characters", Look.text("I300" + "g4".repeat(57) + "l").errorPosition(), 119);
    }

    private static void firstWrongOne() {
        Check.sentence("A game as a text is the letter I");
        Check.eq("a small i", Look.text("i317").errorPosition(), 0);
        Check.eq("no I at all", Look.text("317").errorPosition(), 0);
        Check.eq("an I more", Look.text("II317").errorPosition(), 1);
        Check.sentence("The text is read from left to right.");
        Check.eq("two wrong ones", Look.text("I317x10+y").errorPosition(), 4);
        Check.eq("wrong, and too short", Look.text("I3x").errorPosition(), 2);
        Check.eq("the last one", Look.text("I300" + "g4".repeat(57) + "g9").errorPosition(), 119);
        Check.eq("the first one", Look.text("J317").errorPosition(), 0);
        Check.eq("what is behind a game", Look.text("I317I317").errorPosition(), 4);
        ShiftIsles x = Look.text("I317g");
        Check.eq("too short", x.errorPosition(), 5);
        x.append('4');
        Check.eq("one more", x.errorPosition(), -1);
        x.append('4');
        Check.eq("one too many", x.errorPosition(), 6);
    }

    private static void players() {
        Check.sentence("a digit for the players (2 to 4)");
        for (int players = 2; players <= 4; players++) {
            ShiftIsles x = Look.text("I" + players + "17");
            Check.eq("load()", x.load(), 0);
            Check.eq("players", x.about(0), players);
            Check.eq("boards", x.player(players - 1, 0), 4);
        }
        Check.eq("one player", Look.text("I117").errorPosition(), 1);
        Check.eq("five players", Look.text("I517").errorPosition(), 1);
    }

    private static void seeds() {
        Check.sentence("two digits for the seed (00 to 99)");
        for (int seed = 0; seed <= 99; seed++) {
            ShiftIsles x = Look.text("I4" + seed / 10 + seed % 10);
            x.load();
            x.clearText();
            Check.same("the seed " + seed, Look.at(x), Look.at(Look.game(4, seed)));
        }
    }

    private static void movesAreDone() {
        Check.sentence("s, a digit for a player (0 to 3), one for a line (0 to 5), and a plus or minus"
                + " sign for the direction 1 or 0");
        for (int k = 0; k < 12; k++) {
            for (int p = 1; p < 4; p++) {
                ShiftIsles x = Look.text("I405s" + p + k / 2 + (k % 2 == 1 ? '+' : '-'));
                Check.eq("load()", x.load(), 0);
                x.clearText();
                ShiftIsles y = Look.game(4, 5);
                y.shift(p, k / 2, k % 2);
                Check.same("as shift()", Look.at(x), Look.at(y));
            }
        }
        Check.sentence("g and a digit for a place (0 to 8): go()");
        for (int n = 0; n < 9; n++) {
            ShiftIsles x = Look.text("I405s10+g" + n);
            ShiftIsles y = Look.game(4, 5);
            y.shift(1, 0, 1);
            boolean can = Look.bit(y.player(0, 7), n) == 1;
            Check.eq("load()", x.load(), can ? 0 : 1);
            if (can) {
                y.go(n);
            }
            x.clearText();
            Check.same("as go()", Look.at(x), Look.at(y));
        }
        Check.sentence("l and a digit for a line: lock()");
        for (int line = 0; line < 6; line++) {
            ShiftIsles x = Look.text("I405s10+l" + line);
            Check.eq("load()", x.load(), 0);
            Check.eq("locked", x.player(0, 4), line);
            Check.eq("the turn has ended", x.about(1), 1);
        }
    }

    private static void signs() {
        Check.sentence("a plus or minus sign for the direction 1 or 0");
        Check.eq("plus", Look.loaded("I405s23+").player(2, 6), 1);
        Check.eq("minus", Look.loaded("I405s23-").player(2, 6), 0);
    }

    private static void left(String text, int due) {
        Check.eq("load() of " + text, Look.text(text).load(), due);
    }

    private static void leftOut() {
        Check.sentence("Moves that are not possible are left out.");
        left("I205", 0);
        left("I205s10+", 0);
        left("I205s00+", 1);
        left("I205s20+", 1);
        left("I205s30+", 1);
        left("I305s20+s30+", 1);
        left("I205s10+s10+", 1);
        left("I205g4", 1);
        left("I205l4", 1);
        left("I205s10+l4g4", 1);
        left("I205s10+l4l4", 1);
        left("I205s10+l4s04+s04-", 2);
        left("I205s10+l4s03+l0s10-s10+", 2);
        left("I205s10+l4s03+l5s10-", 1);
        Check.sentence("Returns the number of moves that are left out.");
        ShiftIsles x = Look.text("I205g0s00+l3s10+g4s10-s00-l2");
        Check.eq("load()", x.load(), 4);
        x.clearText();
        ShiftIsles y = Look.game(2, 5);
        Look.turn(y, 1, 0, 1);
        y.shift(0, 0, 0);
        y.lock(2);
        Check.same("the others are done", Look.at(x), Look.at(y));
    }

    /** A game of kind players, as a text, that is won before the text is full. */
    private static void leftOutWhenOver() {
        Check.sentence("Moves that are not possible are left out.");
        int won = 0;
        for (int seed = 0; seed < 100; seed++) {
            ShiftIsles x = Look.game(2, seed);
            StringBuilder text = new StringBuilder("I2").append(seed / 10).append(seed % 10);
            while (x.about(4) == 0 && text.length() < 100) {
                int p = x.about(1);
                Look.kind(x);
                text.append('s').append(1 - p).append(x.player(1 - p, 5));
                text.append(x.player(1 - p, 6) == 1 ? '+' : '-').append('g').append(x.player(p, 0));
            }
            ShiftIsles y = Look.text(text.toString());
            Check.eq("load() of " + text, y.load(), 0);
            Look.write(y, "s02+s12+g4l3");
            int due = x.about(4) == 1 ? 4 : y.about(1) == 0 ? 2 : 3;
            if (x.about(4) == 1) {
                won++;
                Check.eq("all behind the end", y.load(), due);
                Check.eq("who has won", y.about(5), x.about(5));
                y.clearText();
                Check.same("as it ended", Look.at(y).replace("text -1", "text 0"), Look.at(x));
            }
        }
        Check.yes("games that are won: " + won, won > 5);
    }

    private static void asInNewObject() {
        Check.sentence("Makes everything as in a new object, begins a game");
        ShiftIsles x = Look.text("I388");
        for (int what = 0; what < 3; what++) {
            x.set(what, 1);
        }
        x.begin(4, 9);
        x.play();
        Check.eq("over", x.about(4), 1);
        x.load();
        x.clearText();
        Check.same("as begin() in a new object", Look.at(x), Look.at(Look.game(3, 88)));

        Check.sentence("Behind it no state is remembered, and both save slots are empty.");
        ShiftIsles y = Look.text("I388s10+g4");
        y.save(0);
        y.begin(2, 2);
        y.save(1);
        y.load();
        Check.fails("undo()", y, Check.STATE, y::undo);
        Check.fails("restore(0)", y, Check.STATE, () -> y.restore(0));
        Check.fails("restore(1)", y, Check.STATE, () -> y.restore(1));
        y.set(0, 5);
        Check.eq("undo() of what came then", y.undo(), 0);
        Check.fails("undo() of more", y, Check.STATE, y::undo);
        Check.eq("save()", y.save(1), 3);
        Check.eq("restore()", y.restore(1), 3);
        Check.fails("restore(0) still", y, Check.STATE, () -> y.restore(0));

        Check.sentence("Keeps the text.");
        Check.eq("load() again", y.load(), 0);
        Check.eq("its length", y.clearText(), 10);
        Check.fails("load() of none", y, Check.STATE, y::load);
    }

    private static void notAGame() {
        Check.sentence("Throws IllegalStateException if the text is not a game");
        for (String text : new String[] {"", "I", "I3", "I38", "I388s", "I388s1", "I388s10", "I388g",
            "I388l", "i388", "I188", "I388 ", "I388g9", "I388l6", "I388s40+", "I388s16+", "I388s10*"}) {
            ShiftIsles x = Look.game(2, 2);
            x.set(1, 5);
            Look.idle(x);
            x.save(0);
            Look.write(x, text);
            Check.fails("load() of " + text, x, Check.STATE, x::load);
            Check.eq("what is remembered", x.undo(), 3);
            Check.eq("the slot is kept", x.restore(0), 2);
            Check.fails("the other one is empty", x, Check.STATE, () -> x.restore(1));
            Check.eq("the text is kept", x.clearText(), text.length());
        }
    }
}
