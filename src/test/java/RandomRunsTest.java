import java.util.Random;

/**
 * Runs of random calls on a LeaderRows and on the Model: each answer, and all that is told behind
 * each call, must be alike. The random numbers have fixed seeds, so that each run is the same.
 */
public final class RandomRunsTest {
    private static final int RUNS = 400;
    private static final int CALLS = 512;
    private static final int[] EDGES = {-1, 0, 1, 11, 12, 13, 14, 59, 60, 61, 100, 101, 1000, 1001, Integer.MIN_VALUE, Integer.MAX_VALUE};

    private final Expect expect;
    private final Random random;
    private final LeaderRows x = new LeaderRows();
    private final Model m = new Model();
    private final long[] secrets = new long[12];
    private final String run;
    private final int wildness;

    private RandomRunsTest(Expect expect, int seed) {
        this.expect = expect;
        this.random = new Random(seed);
        this.run = "run " + seed + ": ";
        this.wildness = seed % 4 == 0 ? 3 : 40;
    }

    public static void main(String[] args) {
        Expect expect = new Expect();
        for (int seed = 1; seed <= RUNS && expect.allRight(); seed++) {
            new RandomRunsTest(expect, seed).play();
        }
        expect.finish();
    }

    private void play() {
        setUp();
        for (int c = 0; c < CALLS && expect.allRight(); c++) {
            if (random.nextInt(wildness) == 0) {
                wildCall();
            } else {
                usualCall();
            }
            compareAll(c);
        }
    }

    private void setUp() {
        int many = 1 + random.nextInt(12);
        for (int i = 0; i < many; i++) {
            int node = random.nextInt(12);
            int w = random.nextInt(4) == 0 ? random.nextInt(1001) : 1 + random.nextInt(6);
            long d = random.nextInt(3) == 0 ? 1_000_000_000_000L - random.nextInt(99) : random.nextInt(300);
            due("weight", x.weight(node, w), m.weight(node, w));
            due("deposit", x.deposit(node, d), m.deposit(node, d));
        }
        int factor = random.nextInt(5) == 0 ? 0 : 1 + random.nextInt(4);
        due("term", x.term(0, factor), m.term(0, factor));
    }

    private void due(String call, long got, long want) {
        expect.due(run + call, got, want);
    }

    private void usualCall() {
        switch ((int) m.told(0)) {
            case 0 -> inRest();
            case 1 -> inCommitting();
            case 2 -> inOpening();
            default -> inTurns();
        }
    }

    private void inRest() {
        int node = random.nextInt(12);
        int what = random.nextInt(4);
        switch (random.nextInt(8)) {
            case 0 -> {
                int w = random.nextInt(9);
                due("weight", x.weight(node, w), m.weight(node, w));
            }
            case 1 -> {
                long d = random.nextInt(500) - 250;
                due("deposit", x.deposit(node, d), m.deposit(node, d));
            }
            case 2 -> {
                int v = what < 2 ? random.nextInt(what == 0 ? 5 : 101) : 1 + random.nextInt(4);
                due("term", x.term(what, v), m.term(what, v));
            }
            case 3 -> claimSome();
            default -> due("begin", x.begin(), m.begin());
        }
    }

    /** Claims the latest row, sometimes with a fault. */
    private void claimSome() {
        int length = (int) m.told(2) + (random.nextInt(3) == 0 ? random.nextInt(3) - 1 : 0);
        for (int k = 0; k < length; k++) {
            int who = (int) m.leader(k);
            if (who < 0 || random.nextInt(60) == 0) {
                who = random.nextInt(12);
            }
            due("claim", x.claim(who), m.claim(who));
        }
        due("check", x.check(), m.check());
    }

    private void inCommitting() {
        int node = random.nextInt(12);
        if (random.nextInt(7) == 0) {
            due("opening", x.opening(), m.opening());
            return;
        }
        long number = random.nextBoolean() ? random.nextLong() : random.nextInt(3) - 1;
        long digest = m.digest(node, number);
        due("digest", x.digest(node, number), digest);
        long answer = m.commit(node, digest);
        due("commit", x.commit(node, digest), answer);
        if (answer > 0) {
            secrets[node] = number;
        }
    }

    private void inOpening() {
        int node = random.nextInt(12);
        boolean opens = random.nextInt(3) != 0;
        int turns = 1 + random.nextInt(random.nextBoolean() ? 60 : 6);
        long number = secrets[node] + (random.nextInt(8) == 0 ? 1 : 0);
        switch (random.nextInt(9)) {
            case 0 -> due("draw", x.draw(turns), m.draw(turns));
            case 1, 2, 3 -> due("would", x.would(node, number, opens, turns), m.would(node, number, opens, turns));
            default -> due("open", x.open(node, number), m.open(node, number));
        }
    }

    private void inTurns() {
        boolean done = random.nextInt(3) != 0;
        due("turn", x.turn(done), m.turn(done));
    }

    private int wildInt() {
        return random.nextInt(4) == 0 ? random.nextInt() : random.nextBoolean() ? random.nextInt(13) : EDGES[random.nextInt(EDGES.length)];
    }

    private long wildLong() {
        return switch (random.nextInt(4)) {
            case 0 -> random.nextLong();
            case 1 -> random.nextBoolean() ? Long.MAX_VALUE - random.nextInt(3) : Long.MIN_VALUE + random.nextInt(3);
            case 2 -> (random.nextBoolean() ? 1 : -1) * (1_000_000_000_000L + random.nextInt(3) - 1);
            default -> wildInt();
        };
    }

    private void wildCall() {
        int a = wildInt();
        int b = wildInt();
        long n = wildLong();
        boolean yes = random.nextBoolean();
        switch (random.nextInt(19)) {
            case 0 -> due("weight", x.weight(a, b), m.weight(a, b));
            case 1 -> due("deposit", x.deposit(a, n), m.deposit(a, n));
            case 2 -> due("term", x.term(a, b), m.term(a, b));
            case 3 -> due("begin", x.begin(), m.begin());
            case 4 -> due("commit", x.commit(a, n), m.commit(a, n));
            case 5 -> due("opening", x.opening(), m.opening());
            case 6 -> due("open", x.open(a, n), m.open(a, n));
            case 7 -> due("draw", x.draw(a), m.draw(a));
            case 8 -> due("turn", x.turn(yes), m.turn(yes));
            case 9 -> due("leader", x.leader(a), m.leader(a));
            case 10 -> due("drawn", x.drawn(a), m.drawn(a));
            case 11 -> due("claim", x.claim(a), m.claim(a));
            case 12 -> due("check", x.check(), m.check());
            case 13 -> due("would", x.would(a, n, yes, b), m.would(a, n, yes, b));
            case 14 -> due("choices", x.choices(), m.choices());
            case 15 -> due("digest", x.digest(a, n), m.digest(a, n));
            case 16 -> due("node", x.node(a, b), m.node(a, b));
            case 17 -> due("amount", x.amount(a), m.amount(a));
            default -> due("told", x.told(a), m.told(a));
        }
    }

    private void compareAll(int c) {
        String behind = "behind call " + c + ": ";
        for (int what = -1; what <= 9; what++) {
            due(behind + "told(" + what + ")", x.told(what), m.told(what));
            for (int node = 0; node < 12; node++) {
                due(behind + "node(" + node + ", " + what + ")", x.node(node, what), m.node(node, what));
            }
        }
        for (int what = -1; what <= 14; what++) {
            due(behind + "amount(" + what + ")", x.amount(what), m.amount(what));
        }
        for (int k = -1; k <= 61; k++) {
            due(behind + "leader(" + k + ")", x.leader(k), m.leader(k));
            due(behind + "drawn(" + k + ")", x.drawn(k), m.drawn(k));
        }
        due(behind + "choices()", x.choices(), m.choices());
    }
}
