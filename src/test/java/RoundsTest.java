import java.util.Arrays;
import java.util.Random;

/**
 * The six steps of a ROUND (Terms, their third part): nets by hand in which a step that is left out,
 * or stands elsewhere, shows; and many drawn nets (fixed seeds) against the steps as the document has
 * them, one after the other.
 */
public final class RoundsTest {
    private static final long FAR = Cases.FAR;
    private static final int DRAWN = 60000;

    public static void main(String[] args) {
        Cases.sentence("Terms: 1 E(a, b) becomes the least sum of E along a way from a to b", RoundsTest::leastSums);
        Cases.sentence("Terms: 2 W(a, g) becomes the least of E(a, b) and W(b, g), summed, over all b", RoundsTest::overAll);
        Cases.sentence("Terms: 3 For each g and each a: E(a, g's beginning) becomes W(a, g)", RoundsTest::waitsAsEdges);
        Cases.sentence("Terms: 4 E(g's beginning, b) becomes low and that, summed, if this is less", RoundsTest::edgesOverGifts);
        Cases.sentence("Terms: 5 W(g's beginning, h) becomes low and that, summed, if this is less", RoundsTest::waitsOverGifts);
        Cases.sentence("Terms: A ROUND, in this order: 2 ahead of 3", RoundsTest::twoAheadOfThree);
        Cases.sentence("Terms: A ROUND, in this order: 3 ahead of 4", RoundsTest::threeAheadOfFour);
        Cases.sentence("Terms: A ROUND, in this order: 3 ahead of 5", RoundsTest::threeAheadOfFive);
        Cases.sentence("Terms: If no E, no W is another one than when the ROUND began (a W alone is)", RoundsTest::onlyWaits);
        Cases.sentence("Promises 16 to 19: whether it is LIVELY, how many ROUNDS that took, E and W as they ended", RoundsTest::drawn);
        Cases.end();
    }

    private static void due(String call, long want, long got) {
        Cases.due(call, want, got);
    }

    private static TickPlans read(String text) {
        TickPlans x = new TickPlans();
        Cases.readText(x, text);
        return x;
    }

    private static void leastSums() {
        TickPlans x = read("m 4;w 0 1 -9 3;w 1 2 -9 4;w 0 2 -9 8;w 2 3 -1 5;");
        due("3 and 4, less than 8", 7, x.edge(0, 2));
        due("3 and 4 and 5", 12, x.edge(0, 3));
        due("the other way, 1 and 9", 10, x.edge(3, 0));
        due("rounds", 2, x.rounds());
    }

    private static void overAll() {
        TickPlans x = read("m 6;g 0 1 9 9;w 2 1 -99 50;w 2 3 -99 1;w 3 1 -99 4;w 4 2 -99 0;");
        due("by one step to the end it would be 41", -4, x.wait(2, 0));
        due("by 4", -5, x.wait(3, 0));
        due("by 0 and 1 and 4", -4, x.wait(4, 0));
        due("by none", FAR, x.wait(5, 0));
        due("the end itself", -9, x.wait(1, 0));
        due("the beginning", 0, x.wait(0, 0));
    }

    /** Two GIFTS begin at MOMENT 0: what both say of one place, the lesser says. */
    private static void waitsAsEdges() {
        for (String gifts : new String[] {"g 0 3 2 9;g 0 1 7 9;", "g 0 1 7 9;g 0 3 2 9;"}) {
            TickPlans x = read("m 4;" + gifts + "w 2 1 -1 12;w 3 2 -9 26;");
            due("9 to MOMENT 3, and 9 less: 0; 12 less 9: 3", 0, x.edge(2, 0));
            due("rounds, whichever came first", 3, x.rounds());
        }
    }

    private static void edgesOverGifts() {
        for (String gifts : new String[] {"g 0 1 2 4;g 0 2 1 12;", "g 0 2 1 12;g 0 1 2 4;"}) {
            TickPlans x = read("m 4;" + gifts + "w 3 1 10 40;w 3 2 8 35;");
            due("2 less 10: -8; 1 less 8: -7", -8, x.edge(0, 3));
            due("rounds, whichever came first", 3, x.rounds());
        }
        TickPlans y = read("m 3;g 0 1 5 9;w 1 2 -9 -4;w 0 2 -9 1;");
        due("as much as there is", 1, y.edge(0, 2));
        y.tighten(2, -9, 2);
        due("less than there is", 1, y.edge(0, 2));
        y.tighten(2, -9, 0);
        due("more than there is", 0, y.edge(0, 2));
    }

    private static void waitsOverGifts() {
        for (String gifts : new String[] {"g 0 1 3 8;g 0 2 5 10;", "g 0 2 5 10;g 0 1 3 8;"}) {
            TickPlans x = read("m 5;" + gifts + "w 4 1 0 99;w 4 2 0 99;g 3 4 4 30;");
            due("3 less 30; 5 less 30", -27, x.wait(0, 2));
            due("along an edge", -32, x.wait(2, 2));
            due("rounds, whichever came first", 3, x.rounds());
        }
    }

    /** In the first ROUND W(0, 0) is 8 less 3 by step 2, and so E(0, 1) is by step 3. */
    private static void twoAheadOfThree() {
        TickPlans x = read("m 3;w 0 2 6 8;g 1 2 2 3;");
        due("an edge", 5, x.edge(0, 1));
        due("lively", 1, x.lively());
        due("rounds", 2, x.rounds());
    }

    /**
     * In the first ROUND step 3 makes E(1, 2) -1 and E(3, 0) -4, and step 4 carries both: E(0, 2) is 5,
     * E(2, 0) is -3. The second makes sums of them, E(0, 3) and E(2, 1); the third changes nothing.
     */
    private static void threeAheadOfFour() {
        TickPlans x = read("m 4;g 0 1 6 7;g 2 3 1 5;w 3 1 -4 3;");
        due("carried over GIFT 0", 5, x.edge(0, 2));
        due("carried over GIFT 1", -3, x.edge(2, 0));
        due("a sum", 10, x.edge(0, 3));
        due("a sum", 4, x.edge(2, 1));
        due("rounds", 3, x.rounds());
    }

    /**
     * In the first ROUND W(3, 1) is -3 by step 2, and E(3, 1) by step 3; then step 5 makes W(3, 1) -5, so
     * that E(3, 1) is -5 in the second, and a sum with it, E(0, 1), another one in the third.
     */
    private static void threeAheadOfFive() {
        TickPlans x = read("m 4;g 3 0 6 8;w 2 0 2 8;g 1 2 6 9;");
        due("over GIFT 0", -5, x.wait(3, 1));
        due("an edge", -5, x.edge(3, 1));
        due("a sum", -11, x.edge(0, 1));
        due("rounds", 4, x.rounds());
    }

    /**
     * The second ROUND leaves all E, and all W up to step 5: only that one makes W(0, 2) less, as in the
     * first ROUND it did W(1, 2). So there has to be a third.
     */
    private static void onlyWaits() {
        TickPlans x = read("m 5;g 0 1 2 9;g 1 2 2 9;w 3 0 -100000 60;g 3 4 1 40;w 4 2 -1 100000;");
        due("1 less 40", -39, x.wait(2, 2));
        due("over one gift", -37, x.wait(1, 2));
        due("over both", -35, x.wait(0, 2));
        due("rounds", 3, x.rounds());
        due("lively", 1, x.lively());
    }

    private static void drawn() {
        int[] met = new int[20];
        int dead = 0;
        for (int seed = 1; seed <= DRAWN; seed++) {
            Steps model = new Steps(new Random(seed * 31L));
            TickPlans real = read(model.text.toString());
            String net = " of " + model.text;
            due("lively" + net, model.lively ? 1 : 0, real.lively());
            due("rounds" + net, model.rounds, real.rounds());
            met[Math.min(model.rounds, 19)]++;
            dead += model.lively ? 0 : 1;
            for (int a = 0; a < model.n; a++) {
                for (int b = 0; b < model.n; b++) {
                    due("edge " + a + " " + b + net, model.lively ? model.e[a][b] : 0, real.edge(a, b));
                }
                for (int g = 0; g < model.gifts; g++) {
                    due("wait " + a + " " + g + net, model.lively ? model.w[a][g] : 0, real.wait(a, g));
                }
            }
        }
        due("nets of five ROUNDS were met", 1, met[5] > 0 ? 1 : 0);
        due("nets that are not LIVELY were met", 1, dead > 0 && dead < DRAWN ? 1 : 0);
    }

    /** A drawn net, with E and W made by the words of the document. */
    private static final class Steps {
        final StringBuilder text = new StringBuilder();
        final int n;
        final long[][] e;
        final int[][] gift = new int[6][];
        int gifts = 0;
        long[][] w;
        boolean lively;
        int rounds;

        Steps(Random random) {
            n = 3 + random.nextInt(5);
            e = new long[n][n];
            for (int a = 0; a < n; a++) {
                for (int b = 0; b < n; b++) {
                    e[a][b] = a == b ? 0 : FAR;
                }
            }
            text.append("m ").append(n).append(';');
            int span = random.nextBoolean() ? 12 : 60;
            for (int links = 2 + random.nextInt(7); links > 0; links--) {
                drawLink(random, span);
            }
            beginWaits();
            boolean goes = true;
            while (goes && rounds < 400) {
                rounds++;
                goes = round();
            }
        }

        private void drawLink(Random random, int span) {
            int a = random.nextInt(n);
            int b = random.nextInt(n);
            boolean given = random.nextBoolean();
            int low = given ? 1 + random.nextInt(span) : random.nextInt(3) == 0 ? -1000 : random.nextInt(2 * span) - span;
            int high = low + random.nextInt(given ? span : 3 * span);
            high = !given && random.nextInt(3) == 0 ? 1000 : high;
            if (a == b || given && (gifts == 6 || !canBeGift(a, b))) {
                return;
            }
            text.append(given ? "g " : "w ").append(a + " " + b + " " + low + " " + high + ";");
            e[a][b] = Math.min(e[a][b], high);
            e[b][a] = Math.min(e[b][a], -low);
            if (given) {
                gift[gifts] = new int[] {a, b, low, high};
                gifts++;
            }
        }

        private boolean canBeGift(int a, int b) {
            boolean can = endOf(b) < 0;
            for (int at = a; at >= 0; at = endOf(at) < 0 ? -1 : gift[endOf(at)][0]) {
                can &= at != b;
            }
            return can;
        }

        private int endOf(int m) {
            for (int g = 0; g < gifts; g++) {
                if (gift[g][1] == m) {
                    return g;
                }
            }
            return -1;
        }

        private void beginWaits() {
            w = new long[n][gifts];
            for (int a = 0; a < n; a++) {
                for (int g = 0; g < gifts; g++) {
                    w[a][g] = gift[g][1] == a ? -gift[g][3] : FAR;
                }
            }
        }

        private static long sum(long x, long y) {
            return x == FAR || y == FAR ? FAR : x + y;
        }

        private static long[][] copy(long[][] x) {
            long[][] y = x.clone();
            for (int i = 0; i < x.length; i++) {
                y[i] = x[i].clone();
            }
            return y;
        }

        /** The least sums of ways of n steps at most; a RING shows from a MOMENT to itself. */
        private long[][] leastSums(long[][] steps) {
            long[][] least = copy(steps);
            for (int more = 1; more < n; more++) {
                long[][] shorter = copy(least);
                for (int a = 0; a < n; a++) {
                    for (int b = 0; b < n; b++) {
                        for (int c = 0; c < n; c++) {
                            least[a][c] = Math.min(least[a][c], sum(shorter[a][b], steps[b][c]));
                        }
                    }
                }
            }
            return least;
        }

        private boolean hasRing(long[][] least) {
            for (int a = 0; a < n; a++) {
                if (least[a][a] < 0) {
                    return true;
                }
            }
            return false;
        }

        /** Whether another ROUND is due. */
        private boolean round() {
            long[][] edgesBefore = copy(e);
            long[][] waitsBefore = copy(w);
            long[][] least = leastSums(e);
            if (hasRing(least)) {
                return false;
            }
            put(least, e);
            stepsTwoAndThree();
            stepFour();
            stepFive();
            long[][] both = copy(e);
            boolean deep = false;
            for (int a = 0; a < n; a++) {
                for (int g = 0; g < gifts; g++) {
                    both[a][gift[g][0]] = Math.min(both[a][gift[g][0]], w[a][g]);
                    deep |= w[a][g] < -1000000000000L;
                }
                for (int b = 0; b < n; b++) {
                    deep |= e[a][b] < -1000000000000L;
                }
            }
            if (deep || hasRing(leastSums(both))) {
                return false;
            }
            lively = Arrays.deepEquals(e, edgesBefore) && Arrays.deepEquals(w, waitsBefore);
            return !lively;
        }

        private static void put(long[][] source, long[][] target) {
            for (int i = 0; i < source.length; i++) {
                System.arraycopy(source[i], 0, target[i], 0, source[i].length);
            }
        }

        private void stepsTwoAndThree() {
            long[][] was = copy(w);
            for (int a = 0; a < n; a++) {
                for (int g = 0; g < gifts; g++) {
                    w[a][g] = FAR;
                    for (int b = 0; b < n; b++) {
                        w[a][g] = Math.min(w[a][g], sum(e[a][b], was[b][g]));
                    }
                }
            }
            for (int g = 0; g < gifts; g++) {
                for (int a = 0; a < n; a++) {
                    if (a != gift[g][1] && w[a][g] != FAR && w[a][g] >= -gift[g][2]) {
                        e[a][gift[g][0]] = Math.min(e[a][gift[g][0]], w[a][g]);
                    }
                }
            }
        }

        private void stepFour() {
            long[][] was = copy(e);
            for (int g = 0; g < gifts; g++) {
                for (int b = 0; b < n; b++) {
                    if (was[gift[g][1]][b] < 0) {
                        e[gift[g][0]][b] = Math.min(e[gift[g][0]][b], gift[g][2] + was[gift[g][1]][b]);
                    }
                }
            }
        }

        private void stepFive() {
            long[][] was = copy(w);
            for (int g = 0; g < gifts; g++) {
                for (int h = 0; h < gifts; h++) {
                    if (h != g && was[gift[g][1]][h] < 0) {
                        w[gift[g][0]][h] = Math.min(w[gift[g][0]][h], gift[g][2] + was[gift[g][1]][h]);
                    }
                }
            }
        }
    }
}
