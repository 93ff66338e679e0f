import java.math.BigInteger;

/**
 * How THE ROW is made (promise 9), sentence by sentence: each ROW is gone along TURN by TURN, from
 * the SEED and the WAITS ahead of it, and the test counts that it met both sides of each bound.
 */
public final class RowSentencesTest {
    private static final Expect EXPECT = new Expect();
    private static final BigInteger TWO_63 = BigInteger.ONE.shiftLeft(63), TWO_64 = BigInteger.ONE.shiftLeft(64);
    private static final BigInteger G = new BigInteger("9E3779B97F4A7C15", 16);

    private final LeaderRows x = new LeaderRows();
    private final int[] weights;
    private final int factor;
    private final long[] waits = new long[12];
    private BigInteger stream;
    private long sum;

    /** How often each side was met, over all ROWS. */
    private static int atTheBar, oneBelow, severalAlike, greaterIsLater, greaterIsEarlier;
    private static int highZ, lowZ, wrapped, lastOfOne, firstOfNext;

    private RowSentencesTest(int factor, int... weights) {
        this.factor = factor;
        this.weights = weights;
    }

    public static void main(String[] args) {
        int[][] all = {{0, 0, 0, 1, 0, 0, 0, 0, 0, 0, 0, 1}, {1, 2, 1}, {1, 1, 1, 1, 1, 1, 1, 1, 1, 1, 1, 1}, {6, 3, 2}, {2, 3, 6},
            {0, 4, 0, 4, 0, 2}, {1000, 1}, {1, 1000}, {1000, 999, 998}, {0, 0, 0, 0, 0, 0, 0, 0, 0, 0, 0, 7},
            {1000, 1000, 1000, 1000, 1000, 1000, 1000, 1000, 1000, 1000, 1000, 1000}, {1, 2, 3, 4, 5, 6, 7, 8, 9, 10, 11, 12}};
        for (int[] weights : all) {
            for (int factor : new int[] {0, 1, 2, 3, 100}) {
                new RowSentencesTest(factor, weights).twoEpochs();
            }
        }
        bothSidesWereMet();
        promise9FactorIsAbove0();
        promise9WaitTimesWeightIsFactorTimesW();
        promise9FactorOf100();
        promise9TheGreatestOfSeveralTheLeast();
        promise9OnlyElectorsAreOverdue();
        promise9TheStreamBeginsAtTheSeed();
        promise9RIsZModuloW();
        promise9ItsWaitIs0();
        promise9OnlyElectorsWait();
        promise9TheFirstElectorWhoseSumIsAbove();
        EXPECT.eachPromise(9, 9);
        EXPECT.finish();
    }

    private static void due(String call, long got, long want) {
        EXPECT.due(call, got, want);
    }

    private static BigInteger mix(BigInteger z) {
        BigInteger y = z.xor(z.shiftRight(30)).multiply(new BigInteger("BF58476D1CE4E5B9", 16)).mod(TWO_64);
        y = y.xor(y.shiftRight(27)).multiply(new BigInteger("94D049BB133111EB", 16)).mod(TWO_64);
        return y.xor(y.shiftRight(31));
    }

    // ---- along a row

    private void twoEpochs() {
        EXPECT.sentence("Promise 9", "THE ROW, TURN by TURN");
        for (int node = 0; node < weights.length; node++) {
            x.weight(node, weights[node]);
            x.deposit(node, 1);
            sum += weights[node];
        }
        x.term(0, factor);
        for (int epoch = 1; epoch <= 2; epoch++) {
            Scenes.drawWithout(x, 60);
            due("told(4)", x.told(4), sum);
            along();
            for (int k = 0; k < 60; k++) {
                x.turn(true);
            }
        }
    }

    private void along() {
        stream = BigInteger.valueOf(x.amount(0)).mod(TWO_64);
        for (int k = 0; k < 60; k++) {
            int who = mostOverdue();
            int numbers = 0;
            if (who < 0) {
                who = holder();
                numbers = 1;
            }
            due("leader(" + k + "), factor " + factor + ", W " + sum, x.leader(k), who);
            due("drawn(" + k + "), factor " + factor + ", W " + sum, x.drawn(k), numbers);
            for (int node = 0; node < weights.length; node++) {
                waits[node] = node == who || weights[node] == 0 ? 0 : waits[node] + 1;
            }
        }
        for (int node = 0; node < 12; node++) {
            due("node(" + node + ", 1) behind the row", x.node(node, 1), waits[node]);
        }
    }

    private int mostOverdue() {
        int who = -1;
        long most = -1;
        int over = 0;
        int alike = 0;
        for (int node = 0; node < weights.length; node++) {
            long product = waits[node] * weights[node];
            over += factor > 0 && product >= factor * sum ? 1 : 0;
            if (product > most) {
                most = product;
                who = node;
                alike = 1;
            } else if (product == most) {
                alike++;
            }
        }
        if (factor == 0 || most < factor * sum) {
            oneBelow += most == factor * sum - 1 ? 1 : 0;
            return -1;
        }
        atTheBar += most == factor * sum ? 1 : 0;
        severalAlike += alike > 1 ? 1 : 0;
        if (over > alike) {
            countWhere(who, most);
        }
        return who;
    }

    private void countWhere(int who, long most) {
        for (int node = 0; node < weights.length; node++) {
            long product = waits[node] * weights[node];
            if (product >= factor * sum && product < most) {
                greaterIsLater += node < who ? 1 : 0;
                greaterIsEarlier += node > who ? 1 : 0;
            }
        }
    }

    private int holder() {
        BigInteger next = stream.add(G);
        wrapped += next.compareTo(TWO_64) >= 0 ? 1 : 0;
        stream = next.mod(TWO_64);
        BigInteger z = mix(stream);
        highZ += z.compareTo(TWO_63) >= 0 ? 1 : 0;
        lowZ += z.compareTo(TWO_63) < 0 ? 1 : 0;
        long r = z.mod(BigInteger.valueOf(sum)).longValueExact();
        long reached = 0;
        for (int node = 0; node < weights.length; node++) {
            firstOfNext += weights[node] > 0 && reached > 0 && r == reached ? 1 : 0;
            reached += weights[node];
            lastOfOne += weights[node] > 1 && reached < sum && r == reached - 1 ? 1 : 0;
            if (reached > r) {
                return node;
            }
        }
        return -1;
    }

    private static void bothSidesWereMet() {
        EXPECT.sentence("Promise 9", "its WAIT times its WEIGHT is FACTOR times W or more");
        EXPECT.holds("one was just at FACTOR times W", atTheBar > 0);
        EXPECT.holds("one was one below it", oneBelow > 0);
        EXPECT.sentence("Promise 9", "the one with the greatest WAIT times WEIGHT, of several the least, leads");
        EXPECT.holds("several had the greatest", severalAlike > 0);
        EXPECT.holds("a lesser one was overdue ahead of it", greaterIsLater > 0);
        EXPECT.holds("a lesser one was overdue behind it", greaterIsEarlier > 0);
        EXPECT.sentence("Promise 9", "becomes STREAM + G, z is MIX of it, taken as a number 0 .. 2^64 - 1");
        EXPECT.holds("z was below 2^63", lowZ > 0);
        EXPECT.holds("z was 2^63 or more", highZ > 0);
        EXPECT.holds("STREAM wrapped", wrapped > 0);
        EXPECT.sentence("Promise 9", "such that the sum of its WEIGHT and of all ELECTORS' before it is above r");
        EXPECT.holds("r was one below a sum", lastOfOne > 0);
        EXPECT.holds("r was a sum itself", firstOfNext > 0);
    }

    // ---- sentence by sentence

    private static void promise9FactorIsAbove0() {
        EXPECT.sentence("Promise 9", "an ELECTOR is OVERDUE, if FACTOR is above 0");
        for (int factor = 0; factor <= 1; factor++) {
            LeaderRows x = Scenes.with(0, 1, 1, 1);
            x.term(0, factor);
            Scenes.drawWithout(x, 60);
            int byWait = 0;
            for (int k = 0; k < 60; k++) {
                byWait += x.drawn(k) == 0 ? 1 : 0;
            }
            EXPECT.holds("factor " + factor + ": turns by wait " + byWait, factor == 0 ? byWait == 0 : byWait > 0);
        }
    }

    /** Two alike: W is 2, so that at FACTOR f the other one leads when it waited 2 f TURNS. */
    private static void promise9WaitTimesWeightIsFactorTimesW() {
        EXPECT.sentence("Promise 9", "FACTOR times W or more");
        int met = 0;
        for (int factor = 1; factor <= 3; factor++) {
            LeaderRows x = Scenes.with(4, 1, 8, 1);
            x.term(0, factor);
            Scenes.drawWithout(x, 60);
            int alike = 0;
            for (int k = 0; k < 60; k++) {
                due("drawn(" + k + ") behind " + alike + " alike, factor " + factor, x.drawn(k), alike >= 2 * factor ? 0 : 1);
                boolean same = k > 0 && x.leader(k) == x.leader(k - 1);
                met += alike == 2 * factor ? 1 : 0;
                alike = same ? alike + 1 : 1;
            }
        }
        EXPECT.holds("some waited so long", met > 0);
    }

    /** A node waits 109 or 110 TURNS with a small WEIGHT, and then has 1000 of W = 1100. */
    private static void promise9FactorOf100() {
        EXPECT.sentence("Promise 9", "FACTOR 0 .. 100");
        for (int wait = 109; wait <= 110; wait++) {
            LeaderRows x = Scenes.with(2, 1, 5, 1000);
            x.term(0, 0);
            for (int turns : new int[] {60, wait - 60}) {
                Scenes.drawWithout(x, turns);
                while (x.told(0) == 3) {
                    x.turn(true);
                }
            }
            due("node(2, 1)", x.node(2, 1), wait);
            x.weight(2, 1000);
            x.weight(5, 100);
            x.term(0, 100);
            Scenes.drawWithout(x, 1);
            due("told(4)", x.told(4), 1100);
            due("drawn(0) behind " + wait, x.drawn(0), wait == 110 ? 0 : 1);
            EXPECT.holds("the one that waited leads", wait == 109 || x.leader(0) == 2);
        }
    }

    private static void promise9TheGreatestOfSeveralTheLeast() {
        EXPECT.sentence("Promise 9", "If some are, the one with the greatest WAIT times WEIGHT, of several the least, leads");
        LeaderRows x = Scenes.twelve(1);
        x.term(0, 1);
        Scenes.drawWithout(x, 60);
        boolean[] led = new boolean[12];
        for (int k = 0; k < 12; k++) {
            led[x.leader(k)] = true;
        }
        int k = 12;
        for (int node = 0; node < 12; node++) {
            if (!led[node]) {
                due("leader(" + k + ") of those that wait alike", x.leader(k), node);
                due("drawn(" + k + ")", x.drawn(k), 0);
                k++;
            }
        }
        EXPECT.holds("several waited alike", k > 13);
        EXPECT.sentence("Promise 9", "the one with the greatest WAIT times WEIGHT");
        for (int heavy = 0; heavy <= 2; heavy++) {
            LeaderRows y = Scenes.with(5, 1000, 0, 1, 1, 1, 2, 1);
            y.term(0, 0);
            Scenes.drawWithout(y, 20);
            while (y.told(0) == 3) {
                y.turn(true);
            }
            for (int node = 0; node <= 2; node++) {
                due("node(" + node + ", 1)", y.node(node, 1), 20);
                y.weight(node, node == heavy ? 3 : 2);
            }
            y.weight(5, 1);
            y.term(0, 1);
            Scenes.drawWithout(y, 3);
            due("leader(0), the heaviest", y.leader(0), heavy);
            due("leader(1), the least of the others", y.leader(1), heavy == 0 ? 1 : 0);
            due("leader(2)", y.leader(2), heavy == 2 ? 1 : 2);
            due("drawn(2)", y.drawn(2), 0);
        }
    }

    /** Node 2 waited long; it leads by WAIT as an ELECTOR, and not when it withholds or has no WEIGHT. */
    private static void promise9OnlyElectorsAreOverdue() {
        EXPECT.sentence("Promise 9", "an ELECTOR is OVERDUE");
        for (int how = 0; how < 3; how++) {
            LeaderRows x = Scenes.with(2, 1, 5, 1000);
            x.term(0, 0);
            Scenes.drawWithout(x, 30);
            while (x.told(0) == 3) {
                x.turn(true);
            }
            due("node(2, 1)", x.node(2, 1), 30);
            x.weight(2, how == 2 ? 0 : 1000);
            x.weight(5, 1);
            x.term(0, 3);
            x.begin();
            x.commit(how == 1 ? 2 : 5, x.digest(5, 8));
            x.opening();
            x.open(5, 8);
            due("draw(1)", x.draw(1), how == 0 ? 2 : 1);
            due("leader(0)", x.leader(0), how == 0 ? 2 : 5);
            due("drawn(0)", x.drawn(0), how == 0 ? 0 : 1);
        }
    }

    private static BigInteger zOf(LeaderRows x, int draws) {
        BigInteger from = BigInteger.valueOf(x.amount(0)).mod(TWO_64);
        return mix(from.add(G.multiply(BigInteger.valueOf(draws))).mod(TWO_64));
    }

    /** Two of WEIGHT 1: node 8 leads if z is odd. TURNS by WAIT take nothing from STREAM, and each ROW has its own. */
    private static void promise9TheStreamBeginsAtTheSeed() {
        EXPECT.sentence("Promise 9", "Else numbers are drawn: STREAM (the SEED, ahead of the first draw of this ROW)");
        for (int factor = 0; factor <= 1; factor++) {
            LeaderRows x = Scenes.with(4, 1, 8, 1);
            x.term(0, factor);
            for (int epoch = 1; epoch <= 5; epoch++) {
                Scenes.drawWithout(x, 12);
                int draws = 0;
                for (int k = 0; k < 12; k++) {
                    draws += x.drawn(k);
                    if (x.drawn(k) > 0) {
                        due("leader(" + k + ") by draw " + draws, x.leader(k), zOf(x, draws).testBit(0) ? 8 : 4);
                    }
                    x.turn(true);
                }
                EXPECT.holds("draws " + draws + ", factor " + factor, factor == 0 ? draws == 12 : draws < 12);
            }
        }
    }

    /** Twelve alike, so that r over the WEIGHT of one is the leader. */
    private static void promise9RIsZModuloW() {
        EXPECT.sentence("Promise 9", "r is z modulo W");
        for (int weight : new int[] {1, 2, 7, 83, 500, 999, 1000}) {
            LeaderRows x = Scenes.twelve(weight);
            x.term(0, 0);
            Scenes.drawWithout(x, 60);
            for (int k = 0; k < 60; k++) {
                int r = zOf(x, k + 1).mod(BigInteger.valueOf(12 * weight)).intValueExact();
                due("leader(" + k + "), r " + r, x.leader(k), r / weight);
            }
        }
    }

    private static void promise9ItsWaitIs0() {
        EXPECT.sentence("Promise 9", "Then its WAIT is 0, that of each other ELECTOR 1 more");
        LeaderRows x = Scenes.with(0, 3, 6, 3, 11, 3);
        x.term(3, 20);
        int[] waits = new int[12];
        for (int epoch = 1; epoch <= 20; epoch++) {
            Scenes.drawWithout(x, 1);
            for (int node : new int[] {0, 6, 11}) {
                waits[node] = x.leader(0) == node ? 0 : waits[node] + 1;
                due("node(" + node + ", 1) in epoch " + epoch, x.node(node, 1), waits[node]);
            }
            x.turn(epoch % 2 == 0);
            for (int node : new int[] {0, 6, 11}) {
                due("node(" + node + ", 1) behind its turn", x.node(node, 1), waits[node]);
            }
        }
    }

    private static void promise9OnlyElectorsWait() {
        EXPECT.sentence("Promise 9", "that of each other ELECTOR 1 more");
        LeaderRows x = Scenes.with(0, 1000, 6, 1, 7, 1, 8, 1);
        x.term(0, 0);
        x.term(2, 1);
        Scenes.drawWithout(x, 5);
        while (x.told(0) == 3) {
            x.turn(true);
        }
        x.weight(8, 0);
        x.begin();
        x.commit(6, 0);
        x.opening();
        due("draw(4)", x.draw(4), 2);
        due("node(0, 1), leads", x.node(0, 1), 0);
        due("node(6, 1), withholds", x.node(6, 1), 5);
        due("node(7, 1), elects", x.node(7, 1), 9);
        due("node(8, 1), no member", x.node(8, 1), 5);
        due("node(9, 1), never there", x.node(9, 1), 0);
        while (x.told(0) == 3) {
            x.turn(true);
        }
        Scenes.drawWithout(x, 2);
        due("node(6, 1), aside", x.node(6, 1), 5);
        due("node(7, 1), elects", x.node(7, 1), 11);
    }

    /** WEIGHTS do not change the SEED, so that z stays and r is 0 .. W - 1 as the sums are set. */
    private static void promise9TheFirstElectorWhoseSumIsAbove() {
        EXPECT.sentence("Promise 9", "the leader is the first ELECTOR, by nodes");
        LeaderRows first = Scenes.with(0, 1);
        Scenes.drawWithout(first, 1);
        BigInteger z = mix(BigInteger.valueOf(first.amount(0)).add(G).mod(TWO_64));
        for (int total : new int[] {2, 10, 1000, 2000}) {
            int r = z.mod(BigInteger.valueOf(total)).intValueExact();
            for (int share = Math.max(1, total - 1000); share <= Math.min(1000, total - 1); share++) {
                if (Math.abs(share - r) > 2 && share % 97 != 0) {
                    continue;
                }
                LeaderRows x = Scenes.with(3, share, 9, total - share);
                x.term(0, 0);
                Scenes.drawWithout(x, 1);
                due("leader(0), r " + r + ", sum " + share, x.leader(0), share > r ? 3 : 9);
            }
        }
    }
}
