/** The second half of the section A TURN of the document: how turns and games end. */
public final class EndTest {
    public static void main(String[] args) {
        asManyTreasures();
        moreTreasures();
        onlyWhoseTurnItWas();
        fiveTreasures();
        lockUntilNextTurn();
        noNextTurn();
        oneLock();
        nextPlayer();
        asManyTurns();
        moreTurns();
        bothAtOnce();
        overForGood();
        Check.end();
    }

    /** A game in which the player 0 can take a treasure, and in the next turn another one. */
    private static ShiftIsles twoInReach() {
        for (long seed = 0; seed < 10000; seed++) {
            ShiftIsles tried = Look.game(2, seed);
            if (tried.player(0, 8) == 1) {
                takeOne(tried);
                passOne(tried);
                if (tried.player(0, 8) == 1) {
                    return Look.game(2, seed);
                }
            }
        }
        throw new AssertionError("no game with two in reach");
    }

    private static int takeOne(ShiftIsles x) {
        x.shift(1, 0, 0);
        return x.go(x.player(0, 3));
    }

    private static void passOne(ShiftIsles x) {
        x.shift(0, 0, 0);
        x.lock(5);
    }

    private static void asManyTreasures() {
        Check.sentence("and the player whose turn it was has taken as many treasures as setting 1 tells");
        ShiftIsles x = twoInReach();
        x.set(1, 2);
        Check.yes("the first one", takeOne(x) > 0);
        Check.eq("one too few", x.about(4), 0);
        Check.eq("nobody has won", x.about(5), -1);
        Check.eq("the turn of 1", x.about(1), 1);
        passOne(x);
        Check.yes("the second one", takeOne(x) > 0);
        Check.sentence("the game is over, and that player has won");
        Check.eq("over", x.about(4), 1);
        Check.eq("who has won", x.about(5), 0);
        Check.eq("whose turn", x.about(1), -1);
        Check.eq("turns", x.about(3), 3);
        ShiftIsles y = twoInReach();
        y.set(1, 1);
        Check.yes("the first one", takeOne(y) > 0);
        Check.eq("over with one, if setting 1 is 1", y.about(5), 0);
        ShiftIsles z = twoInReach();
        z.set(1, 3);
        takeOne(z);
        passOne(z);
        takeOne(z);
        Check.eq("not with two, if setting 1 is 3", z.about(4), 0);
    }

    private static void moreTreasures() {
        Check.sentence("as many treasures as setting 1 tells, or more");
        for (int way = 0; way < 2; way++) {
            ShiftIsles x = twoInReach();
            takeOne(x);
            passOne(x);
            takeOne(x);
            x.set(1, 1);
            Check.eq("a setting ends nothing", x.about(4), 0);
            Look.idle(x);
            Check.eq("nor does the other's turn", x.about(4), 0);
            Look.someShift(x);
            Check.eq("nor a shift", x.about(4), 0);
            Check.sentence("If a turn ends (by going or by locking)");
            if (way == 0) {
                Look.stay(x);
            } else {
                Check.eq("lock()", x.lock(5), -1);
            }
            Check.eq("over", x.about(4), 1);
            Check.eq("who has won, with two", x.about(5), 0);
            Check.yes("taken", x.player(0, 1) >= 2);
        }
    }

    private static void onlyWhoseTurnItWas() {
        Check.sentence("and the player whose turn it was has taken as many treasures");
        ShiftIsles x = Look.game(4, 2);
        x.set(1, 5);
        while (x.player(2, 1) == 0) {
            Look.kind(x);
        }
        Check.eq("the turn behind that of 2", x.about(1), 3);
        boolean others = x.player(3, 1) > 0;
        x.set(1, 1);
        Look.idle(x);
        Check.eq("the turn of 3, who has " + x.player(3, 1), x.about(4), others ? 1 : 0);
        ShiftIsles y = Look.seek(3, "only 1 can take one", z -> z.player(1, 3) == 4);
        y.set(1, 2);
        Look.idle(y);
        y.shift(2, 0, 0);
        Check.yes("1 takes one", y.go(4) > 0);
        y.set(1, 1);
        Look.idle(y);
        Check.eq("not in the turn of 2", y.about(4), 0);
        Look.idle(y);
        Check.eq("not in the turn of 0", y.about(4), 0);
        Look.idle(y);
        Check.eq("but in that of 1", y.about(5), 1);
    }

    private static void fiveTreasures() {
        Check.sentence("as many treasures as setting 1 tells");
        int won = 0;
        for (long seed = 0; seed < 30; seed++) {
            ShiftIsles x = Look.game(2, seed);
            x.set(0, 9);
            x.set(1, 5);
            x.set(2, 200);
            while (x.about(4) == 0) {
                Check.yes("not over with four", x.player(0, 1) < 5 && x.player(1, 1) < 5);
                Look.kind(x);
            }
            int p = x.about(5);
            if (p >= 0) {
                won++;
                Check.eq("over with five", x.player(p, 1), 5);
                Check.eq("nothing more is sought", x.player(p, 2), -1);
            }
        }
        Check.yes("won with five: " + won, won > 3);
    }

    private static void lockUntilNextTurn() {
        Check.sentence("A lock is on until the player's next turn begins");
        for (int players = 2; players <= 4; players++) {
            for (int line = 0; line < 6; line++) {
                ShiftIsles x = Look.game(players, 60 + line);
                x.set(1, 5);
                Look.someShift(x);
                x.lock(line);
                for (int p = 1; p < players; p++) {
                    Check.eq("in the turn of " + p, x.player(0, 4), line);
                    Check.no("canShift()", x.canShift(0, line, 1));
                    Look.someShift(x);
                    Check.eq("behind a shift of " + p, x.player(0, 4), line);
                    Look.stay(x);
                }
                Check.eq("the own turn", x.about(1), 0);
                Check.eq("when it begins", x.player(0, 4), -1);
                Check.yes("as a shift", x.canShift(0, line, 1) || x.player(0, 5) == line);
            }
        }
    }

    private static void noNextTurn() {
        Check.sentence("(none does when the game is over)");
        ShiftIsles x = Look.game(3, 70);
        x.set(2, 3);
        for (int p = 0; p < 3; p++) {
            Look.someShift(x);
            x.lock(p == 0 ? 5 : p);
        }
        Check.eq("over", x.about(4), 1);
        Check.eq("locked by 0", x.player(0, 4), 5);
        Check.eq("locked by 1", x.player(1, 4), 1);
        Check.eq("locked by 2, at the end", x.player(2, 4), 2);
        Check.no("canShift()", x.canShift(0, 5, 1));
        ShiftIsles y = Look.seek(2, "1 can take one", z -> z.player(1, 3) == 4);
        y.set(1, 1);
        Look.someShift(y);
        y.lock(4);
        y.shift(0, 0, 0);
        y.go(4);
        Check.eq("won by 1", y.about(5), 1);
        Check.eq("locked by 0, whose turn does not begin", y.player(0, 4), 4);
    }

    private static void oneLock() {
        Check.sentence("there is at most one on a board");
        ShiftIsles x = Look.game(2, 71);
        for (int line = 0; line < 6; line++) {
            Look.someShift(x);
            x.lock(line);
            Check.eq("locked", x.player(0, 4), line);
            for (int other = 0; other < 6; other++) {
                boolean free = x.canShift(0, other, 0) || x.canShift(0, other, 1);
                Check.eq("the line " + other + " is free", free ? 1 : 0, other == line ? 0 : 1);
            }
            Look.someShift(x);
            x.lock(5 - line);
        }
    }

    private static void nextPlayer() {
        for (int players = 2; players <= 4; players++) {
            ShiftIsles x = Look.game(players, 72);
            x.set(1, 5);
            for (int turn = 0; turn < 3 * players; turn++) {
                Check.sentence(turn % players == 0 && turn > 0 ? "(behind the last one that of the player 0)"
                        : "Then it is the next player's turn");
                Check.eq("whose turn of " + players, x.about(1), turn % players);
                Look.someShift(x);
                if (turn % 2 == 0) {
                    Check.eq("lock()", x.lock(turn % 6), (turn + 1) % players);
                } else {
                    Look.stay(x);
                }
            }
        }
    }

    private static void asManyTurns() {
        Check.sentence("if a turn ends, and as many turns have ended as setting 2 tells");
        for (int turns : new int[] {1, 2, 3, 59, 60, 199, 200}) {
            ShiftIsles x = Look.game(2 + turns % 3, 73);
            if (turns != 60) {
                x.set(2, turns);
            }
            for (int turn = 1; turn < turns; turn++) {
                Look.idle(x);
                Check.eq("not over behind " + turn + " of " + turns, x.about(4), 0);
            }
            Check.eq("the last one", Look.idle(x), -1);
            Check.eq("over", x.about(4), 1);
            Check.eq("turns", x.about(3), turns);
            Check.eq("with nobody having won", x.about(5), -1);
            Check.eq("whose turn", x.about(1), -1);
        }
        ShiftIsles y = Look.game(2, 73);
        y.set(2, 1);
        Look.someShift(y);
        Check.eq("not by a shift", y.about(4), 0);
        Look.stay(y);
        Check.eq("by going too", y.about(4), 1);
        ShiftIsles z = Look.game(2, 73);
        z.set(2, 1);
        z.play();
        Check.eq("by play() too", z.about(4), 1);
    }

    private static void moreTurns() {
        Check.sentence("as many turns have ended as setting 2 tells, or more");
        for (int way = 0; way < 2; way++) {
            ShiftIsles x = Look.game(2, 74);
            for (int turn = 0; turn < 5; turn++) {
                Look.idle(x);
            }
            x.set(2, 2);
            Check.eq("a setting ends nothing", x.about(4), 0);
            Look.someShift(x);
            Check.eq("nor a shift", x.about(4), 0);
            if (way == 0) {
                x.lock(1);
            } else {
                Look.stay(x);
            }
            Check.eq("over", x.about(4), 1);
            Check.eq("turns", x.about(3), 6);
            Check.eq("with nobody having won", x.about(5), -1);
        }
    }

    /** The document names the win first, and the other end as one "with nobody having won". */
    private static void bothAtOnce() {
        Check.sentence("the game is over, and that player has won");
        ShiftIsles x = Look.seek(2, "0 can take one", z -> z.player(0, 3) == 4);
        x.set(1, 1);
        x.set(2, 1);
        x.shift(1, 0, 0);
        x.go(4);
        Check.eq("in the last one of the turns", x.about(5), 0);
    }

    private static void overForGood() {
        Check.sentence("the game is over");
        ShiftIsles x = Look.game(3, 75);
        x.set(2, 1);
        Look.idle(x);
        Check.fails("shift()", x, Check.STATE, () -> x.shift(1, 0, 1));
        Check.fails("go()", x, Check.STATE, () -> x.go(4));
        Check.fails("lock()", x, Check.STATE, () -> x.lock(1));
        Check.fails("play()", x, Check.STATE, x::play);
        Check.eq("nothing is shifted", x.about(2), 0);
        Check.eq("the boards are there still", x.player(2, 0), 4);
        x.begin(2, 1);
        Check.eq("until the next one begins", x.about(4), 0);
    }
}
