import java.util.ArrayList;
import java.util.List;

/** The section A NEW GAME of the document, sentence by sentence; what is drawn is drawn here too. */
public final class NewGameTest {
    private static long x;
    /** How often, in the latest deal, a place behind the place 8, or behind another, was taken. */
    private static int roundTheEnd;
    private static int tried;
    private static int exchangedWithItself;

    private static final List<int[]> OPENINGS = new ArrayList<>();
    private static final List<int[]> TREASURES = new ArrayList<>();
    private static final List<int[]> ORDERS = new ArrayList<>();

    public static void main(String[] args) {
        seedsOfAllKinds();
        openings();
        placesThatAreTaken();
        orders();
        wholeOrders();
        ship();
        atFirst();
        Check.end();
    }

    private static int draw(int n) {
        x = x * 6364136223846793005L + 1442695040888963407L;
        int r = (int) (x >>> 33);
        return r % n;
    }

    private static void deal(int players, long seed) {
        x = seed;
        roundTheEnd = 0;
        tried = 0;
        exchangedWithItself = 0;
        OPENINGS.clear();
        TREASURES.clear();
        ORDERS.clear();
        for (int p = 0; p < players; p++) {
            int[] openings = new int[9];
            for (int n = 0; n < 9; n++) {
                openings[n] = 1 + draw(15);
            }
            OPENINGS.add(openings);
            TREASURES.add(hide());
            ORDERS.add(order());
        }
    }

    private static int[] hide() {
        int[] treasures = new int[9];
        for (int treasure = 1; treasure <= 5; treasure++) {
            int n = draw(9);
            int tries = 0;
            while (treasures[n] != 0) {
                tries++;
                roundTheEnd += n == 8 ? 1 : 0;
                n = n == 8 ? 0 : n + 1;
            }
            tried = Math.max(tried, tries);
            treasures[n] = treasure;
        }
        return treasures;
    }

    private static int[] order() {
        int[] order = {1, 2, 3, 4, 5};
        for (int i = 4; i >= 1; i--) {
            int j = draw(i + 1);
            int kept = order[i];
            order[i] = order[j];
            order[j] = kept;
            exchangedWithItself += i == j ? 1 : 0;
        }
        return order;
    }

    private static void compare(ShiftIsles made, int players) {
        for (int p = 0; p < players; p++) {
            for (int n = 0; n < 9; n++) {
                Check.eq("openings " + p + " " + n, made.tile(p, n, 0), OPENINGS.get(p)[n]);
                Check.eq("treasure " + p + " " + n, made.tile(p, n, 1), TREASURES.get(p)[n]);
            }
            Check.eq("sought by " + p, made.player(p, 2), ORDERS.get(p)[0]);
        }
    }

    private static void seedsOfAllKinds() {
        long[] seeds = {0, 1, -1, 99, 100, Long.MAX_VALUE, Long.MIN_VALUE, 1L << 33, -(1L << 33),
            123456789012345678L, -6364136223846793005L};
        Check.sentence("x is replaced by x * 6364136223846793005L + 1442695040888963407L (with long"
                + " overflow), and with r = (int) (x >>> 33) r % n is drawn.");
        for (long seed : seeds) {
            deal(2, seed);
            compare(Look.game(2, seed), 2);
        }
        Check.sentence("A long x starts as the seed.");
        for (long seed : seeds) {
            deal(3, seed);
            compare(Look.game(3, seed), 3);
            ShiftIsles later = Look.game(4, 8);
            later.simulate(9, 80);
            later.begin(3, seed);
            compare(later, 3);
        }
        Check.sentence("For each player, the lowest first");
        for (long seed : seeds) {
            deal(4, seed);
            compare(Look.game(4, seed), 4);
            compare(Look.game(3, seed), 3);
        }
    }

    private static void openings() {
        Check.sentence("the openings are 1 and what is drawn below 15");
        boolean[] found = new boolean[16];
        for (long seed = 0; seed < 20; seed++) {
            ShiftIsles made = Look.game(4, seed);
            for (int i = 0; i < 36; i++) {
                int openings = made.tile(i / 9, i % 9, 0);
                Check.yes("1 to 15: " + openings, openings >= 1 && openings <= 15);
                found[openings & 15] = true;
            }
        }
        for (int openings = 1; openings <= 15; openings++) {
            Check.yes("there are openings " + openings, found[openings]);
        }
        Check.no("none without", found[0]);
    }

    private static void placesThatAreTaken() {
        int plain = 0;
        int round = 0;
        int far = 0;
        for (long seed = 0; seed < 2000; seed++) {
            deal(2, seed);
            if (tried == 0 && plain++ < 5) {
                Check.sentence("for the treasures 1 to 5, one after the other, a place is drawn below 9");
                compare(Look.game(2, seed), 2);
            }
            if (roundTheEnd > 0 && round++ < 20) {
                Check.sentence("the next place (behind the place 8 the place 0) is taken");
                compare(Look.game(2, seed), 2);
            }
            if (tried >= 4 && far++ < 20) {
                Check.sentence("is taken, until there is none");
                compare(Look.game(2, seed), 2);
            }
        }
        Check.yes("all kinds: " + plain + " " + round + " " + far, plain > 0 && round >= 20 && far >= 5);
    }

    private static void orders() {
        Check.sentence("those with the numbers i and what is drawn below i + 1 are exchanged");
        int itself = 0;
        for (long seed = 0; seed < 500; seed++) {
            deal(2, seed);
            if (exchangedWithItself == 8 || exchangedWithItself == 0 || seed < 20) {
                compare(Look.game(2, seed), 2);
                itself += exchangedWithItself == 0 ? 0 : 1;
            }
        }
        Check.yes("some with themselves", itself > 0);
    }

    /** The whole order comes out when the players take all treasures. */
    private static void wholeOrders() {
        Check.sentence("the order in which treasures are sought");
        int all = 0;
        for (long seed = 0; seed < 40; seed++) {
            int players = 2 + (int) (seed % 3);
            deal(players, seed);
            ShiftIsles made = Look.game(players, seed);
            made.set(0, 9);
            made.set(1, 5);
            made.set(2, 200);
            for (int turn = 0; turn < 200 && made.about(4) == 0; turn++) {
                int p = made.about(1);
                int had = made.player(p, 1);
                int taken = Look.kind(made);
                if (taken != 0) {
                    Check.eq("taken by " + p, taken, ORDERS.get(p)[had]);
                }
                Check.eq("sought by " + p, made.player(p, 2),
                        made.player(p, 1) < 5 ? ORDERS.get(p)[made.player(p, 1)] : -1);
            }
            all += made.about(5) >= 0 ? 1 : 0;
        }
        Check.yes("games with all five taken: " + all, all >= 5);
    }

    private static void ship() {
        for (int players = 2; players <= 4; players++) {
            ShiftIsles made = Look.game(players, 31 + players);
            Check.sentence("The ship is at the place 4.");
            for (int p = 0; p < players; p++) {
                Check.eq("the ship of " + p, made.player(p, 0), 4);
            }
            Check.sentence("Nothing is locked.");
            for (int p = 0; p < players; p++) {
                Check.eq("locked by " + p, made.player(p, 4), -1);
                Check.eq("latest line", made.player(p, 5), -1);
                Check.eq("latest direction", made.player(p, 6), -1);
                Check.eq("taken", made.player(p, 1), 0);
                for (int k = 0; k < 12; k++) {
                    Check.yes("every shift is possible", made.canShift(p, k / 2, k % 2));
                }
            }
            Check.sentence("The player 0 begins.");
            Check.eq("whose turn", made.about(1), 0);
            Check.eq("nothing is shifted", made.about(2), 0);
            Check.eq("no turn has ended", made.about(3), 0);
        }
    }

    private static void atFirst() {
        Check.sentence("At first there is no game.");
        ShiftIsles made = new ShiftIsles();
        Check.eq("players", made.about(0), 0);
        Check.fails("player 0", made, Check.BOUNDS, () -> made.player(0, 0));
        Check.fails("play()", made, Check.STATE, made::play);
        Check.eq("worstShift()", made.worstShift(0), -1);
        Check.eq("goesOn()", made.goesOn(1), -1);
        Check.eq("simulate()", made.simulate(5, 80), 0);
        Check.eq("save()", made.save(0), 0);
    }
}
