import java.util.ArrayList;
import java.util.List;
import java.util.Random;
import java.util.function.ToLongFunction;

/** "What it is" and "Not promised": the class as a whole, as one from outside meets it. */
public final class WholeSentencesTest {
    private static final int NONE = Scenes.NONE, NOT = Scenes.NOT;
    private static final int MOST_CALLS = 512;
    private static final Expect EXPECT = new Expect();

    public static void main(String[] args) throws Exception {
        whoLeadsWhen();
        allCommitBeforeAnyIsOpened();
        byWeightsWithoutBias();
        turnsForThoseThatWaited();
        whatItCostsAndCouldChange();
        missedAsideAndBack();
        anyoneCanReckonAgain();
        eachCallAsThe512th();
        laterCallsEnd();
        whatEachObjectHas();
        objectsInThreadsOfTheirOwn();
        sameCallsSameAnswers();
        EXPECT.finish();
    }

    private static void whatItIs(String words) {
        EXPECT.sentence("What it is", words);
    }

    private static void notPromised(String words) {
        EXPECT.sentence("Not promised", words);
    }

    private static void due(String call, long got, long want) {
        EXPECT.due(call, got, want);
    }

    // ---- what it is

    private static void whoLeadsWhen() {
        whatItIs("Who leads when");
        LeaderRows x = Scenes.with(1, 2, 5, 3, 10, 4);
        Scenes.drawWithout(x, 20);
        for (int k = 0; k < 20; k++) {
            int who = x.leader(k);
            int led = x.node(who, 2);
            due("told(3)", x.told(3), k);
            x.turn(true);
            due("node(" + who + ", 2) behind turn " + k, x.node(who, 2), led + 1);
        }
    }

    private static void allCommitBeforeAnyIsOpened() {
        whatItIs("rows of leaders drawn from numbers to which all commit before any is opened");
        LeaderRows x = Scenes.with(1, 1, 2, 1);
        x.begin();
        x.commit(1, x.digest(1, 5));
        due("open(1, 5), not all had the time to commit", x.open(1, 5), NOT);
        x.opening();
        due("open(1, 5)", x.open(1, 5), 1);
        due("commit(2, ..), one is opened", x.commit(2, x.digest(2, 6)), NOT);
        EXPECT.holds("another number, another row", !rowFrom(5).equals(rowFrom(6)));
        EXPECT.holds("the same number, the same row", rowFrom(5).equals(rowFrom(5)));
    }

    private static List<Integer> rowFrom(long number) {
        LeaderRows x = opened(number, 1, 1, 2, 1);
        x.draw(60);
        List<Integer> leaders = new ArrayList<>();
        for (int k = 0; k < 60; k++) {
            leaders.add(x.leader(k));
        }
        return leaders;
    }

    /** In PHASE 2: the first node COMMITTED to the number, and OPENED it. */
    private static LeaderRows opened(long number, int... nodesAndWeights) {
        LeaderRows x = Scenes.with(nodesAndWeights);
        x.term(0, 0);
        int first = nodesAndWeights[0];
        x.begin();
        x.commit(first, x.digest(first, number));
        x.opening();
        x.open(first, number);
        return x;
    }

    /** Over 30,000 draws each node leads as its weight says, but for five times what chance does to a count. */
    private static void byWeightsWithoutBias() {
        whatItIs("by weights and without bias");
        int[] leads = new int[12];
        for (int number = 0; number < 500; number++) {
            LeaderRows x = opened(number, 0, 1, 1, 2, 2, 3, 3, 4, 4, 5, 5, 6, 6, 7, 7, 8, 8, 9, 9, 10, 10, 11, 11, 12);
            x.draw(60);
            for (int k = 0; k < 60; k++) {
                leads[x.leader(k)]++;
            }
        }
        for (int node = 0; node < 12; node++) {
            double due = 30_000.0 * (node + 1) / 78;
            EXPECT.holds("node " + node + " led " + leads[node] + ", by weight " + due, Math.abs(leads[node] - due) < 5 * Math.sqrt(due));
        }
    }

    /** FACTOR 1: one of 41 parts leads at the latest behind 41 TURNS; by chance alone it does not. */
    private static void turnsForThoseThatWaited() {
        whatItIs("with turns for those that waited too long");
        for (int factor = 0; factor <= 1; factor++) {
            LeaderRows x = Scenes.with(0, 1, 1, 40);
            x.term(0, factor);
            Scenes.drawWithout(x, 60);
            int byWait = 0;
            for (int k = 0; k < 60; k++) {
                byWait += x.leader(k) == 0 && x.drawn(k) == 0 ? 1 : 0;
            }
            due("turns of node 0 by wait, factor " + factor, byWait, factor);
            due("drawn(41), it waited 41 of 41", x.drawn(41), factor == 0 ? 1 : 0);
        }
    }

    private static void whatItCostsAndCouldChange() {
        LeaderRows x = Scenes.with(1, 1, 2, 1, 3, 1);
        x.begin();
        x.commit(1, x.digest(1, 5));
        x.opening();
        whatItIs("and what that could change");
        due("choices()", x.choices(), 1);
        EXPECT.holds("would(1, 5, true, 60)", x.would(1, 5, true, 60) > 0);
        due("would(1, 5, false, 60)", x.would(1, 5, false, 60), 0);
        whatItIs("what it costs to withhold a number");
        x.draw(2);
        due("amount(3), 10 hundredths less", x.amount(3), 900);
        due("amount(1)", x.amount(1), 100);
        due("node(1, 4), and two epochs", x.node(1, 4), 3);
    }

    private static void missedAsideAndBack() {
        whatItIs("turns that are missed");
        LeaderRows x = Scenes.with(1, 1);
        Scenes.drawWithout(x, 3);
        for (int missed = 1; missed <= 3; missed++) {
            x.turn(false);
            due("node(1, 3)", x.node(1, 3), missed);
        }
        whatItIs("nodes that are put aside and come back");
        due("node(1, 4)", x.node(1, 4), 3);
        for (int epoch = 2; epoch <= 4; epoch++) {
            due("begin() of epoch " + epoch, x.begin(), epoch == 4 ? 1 : 0);
            x.opening();
            x.draw(1);
        }
        due("leader(0)", x.leader(0), 1);
    }

    // ---- rows that anyone can reckon again

    private static void anyoneCanReckonAgain() {
        whatItIs("rows that anyone can reckon again");
        LeaderRows x = new LeaderRows();
        for (int node = 0; node < 12; node++) {
            x.weight(node, 1 + node * node);
            x.deposit(node, 100);
        }
        x.term(0, 1);
        for (int epoch = 1; epoch <= 3; epoch++) {
            x.begin();
            for (int node = epoch; node < 12; node += 2) {
                x.commit(node, x.digest(node, 1000 * epoch + node));
            }
            x.opening();
            long seed = mix(x.amount(0) + x.told(1) * 0x9E3779B97F4A7C15L);
            for (int node = epoch; node < 12; node += 4) {
                long number = 1000 * epoch + node;
                seed = x.open(node, number) > 0 ? mix(seed ^ x.digest(node, number) ^ number) : seed;
            }
            int[] row = reckoned(x, seed, 30);
            x.draw(30);
            dueAlike(x, row, 30);
            dueAlike(x, row, epoch * 9);
            for (int k = 0; k < 30; k++) {
                x.turn(k % 4 != 0);
            }
        }
    }

    /** THE CLAIM is the row, but for the TURN unlike (30: for none). */
    private static void dueAlike(LeaderRows x, int[] row, int unlike) {
        for (int k = 0; k < row.length; k++) {
            x.claim(k == unlike ? (row[k] + 1) % 12 : row[k]);
        }
        due("check() of what was reckoned, unlike at " + unlike, x.check(), unlike == row.length ? NONE : unlike);
    }

    private static long mix(long x) {
        long a = (x ^ x >>> 30) * 0xBF58476D1CE4E5B9L;
        long b = (a ^ a >>> 27) * 0x94D049BB133111EBL;
        return b ^ b >>> 31;
    }

    /** From what is told ahead of the draw, and the library's own numbers without a sign. */
    private static int[] reckoned(LeaderRows x, long seed, int turns) {
        List<Integer> electors = new ArrayList<>();
        long[] waits = new long[12];
        long sum = 0;
        for (int node = 0; node < 12; node++) {
            if (x.node(node, 5) == 1 && x.node(node, 6) == x.node(node, 7)) {
                electors.add(node);
                waits[node] = x.node(node, 1);
                sum += x.node(node, 0);
            }
        }
        int[] row = new int[turns];
        long stream = seed;
        for (int k = 0; k < turns; k++) {
            int who = -1;
            for (int node : electors) {
                long due = waits[node] * x.node(node, 0);
                boolean greater = who < 0 || due > waits[who] * x.node(who, 0);
                who = x.told(5) > 0 && due >= x.told(5) * sum && greater ? node : who;
            }
            if (who < 0) {
                stream += 0x9E3779B97F4A7C15L;
                long r = Long.remainderUnsigned(mix(stream), sum);
                for (int i = 0; who < 0; i++) {
                    r -= x.node(electors.get(i), 0);
                    who = r < 0 ? electors.get(i) : -1;
                }
            }
            for (int node : electors) {
                waits[node] = node == who ? 0 : waits[node] + 1;
            }
            row[k] = who;
        }
        return row;
    }

    // ---- 512 calls

    private record Step(String call, ToLongFunction<LeaderRows> made, ToLongFunction<Model> due) {
    }

    /** Two EPOCHS, with each call of the face in it; the run goes through it again and again. */
    private static List<Step> round() {
        List<Step> steps = new ArrayList<>();
        steps.add(new Step("weight(2, 5)", x -> x.weight(2, 5), m -> m.weight(2, 5)));
        steps.add(new Step("deposit(2, 700)", x -> x.deposit(2, 700), m -> m.deposit(2, 700)));
        steps.add(new Step("weight(9, 4)", x -> x.weight(9, 4), m -> m.weight(9, 4)));
        steps.add(new Step("deposit(9, 900)", x -> x.deposit(9, 900), m -> m.deposit(9, 900)));
        steps.add(new Step("term(2, 1)", x -> x.term(2, 1), m -> m.term(2, 1)));
        for (int epoch = 0; epoch < 2; epoch++) {
            long number = 30 + epoch;
            steps.add(new Step("begin()", LeaderRows::begin, Model::begin));
            for (int node : new int[] {2, 9}) {
                steps.add(new Step("digest(" + node + ", ..)", x -> x.digest(node, number), m -> m.digest(node, number)));
                steps.add(new Step("commit(" + node + ", ..)", x -> x.commit(node, x.digest(node, number)), m -> m.commit(node, m.digest(node, number))));
            }
            steps.add(new Step("opening()", LeaderRows::opening, Model::opening));
            steps.add(new Step("would(2, ..)", x -> x.would(2, number, true, 60), m -> m.would(2, number, true, 60)));
            steps.add(new Step("choices()", LeaderRows::choices, Model::choices));
            steps.add(new Step("open(2, ..)", x -> x.open(2, number), m -> m.open(2, number)));
            steps.add(new Step("draw(4)", x -> x.draw(4), m -> m.draw(4)));
            for (int k = 0; k < 4; k++) {
                int turn = k;
                steps.add(new Step("leader(" + k + ")", x -> x.leader(turn), m -> m.leader(turn)));
                steps.add(new Step("drawn(" + k + ")", x -> x.drawn(turn), m -> m.drawn(turn)));
                steps.add(new Step("claim(2)", x -> x.claim(2), m -> m.claim(2)));
                steps.add(new Step("turn(" + (turn < 3) + ")", x -> x.turn(turn < 3), m -> m.turn(turn < 3)));
            }
            steps.add(new Step("check()", LeaderRows::check, Model::check));
            steps.add(new Step("node(9, 4)", x -> x.node(9, 4), m -> m.node(9, 4)));
            steps.add(new Step("amount(1)", x -> x.amount(1), m -> m.amount(1)));
            steps.add(new Step("told(1)", x -> x.told(1), m -> m.told(1)));
        }
        return steps;
    }

    private static void eachCallAsThe512th() {
        whatItIs("An object is used for at most 512 calls after it has been made");
        List<Step> round = round();
        for (int last = 0; last < round.size(); last++) {
            LeaderRows x = new LeaderRows();
            Model m = new Model();
            // As many calls that only ask as bring the step LAST to the 512th place.
            int idle = Math.floorMod(MOST_CALLS - 1 - last, round.size());
            for (int call = 0; call < MOST_CALLS; call++) {
                Step step = round.get(call < idle ? 0 : (call - idle) % round.size());
                long got = call < idle ? x.told(0) : step.made().applyAsLong(x);
                due("call " + (call + 1) + ", " + step.call(), got, call < idle ? 0 : step.due().applyAsLong(m));
            }
        }
    }

    /** Their answers are free; but no call may throw, or fail to end. */
    private static void laterCallsEnd() {
        whatItIs("what later calls answer is free");
        EXPECT.holds("100000 calls end", answers(new LeaderRows(), new Random(7), 100_000).size() == 100_000);
        notPromised("and nothing about an object after its 512th call");
        LeaderRows x = Scenes.twelve(1000);
        x.term(0, 0);
        for (int epoch = 0; epoch < 2000; epoch++) {
            Scenes.drawWithout(x, 60);
            for (int k = 0; k < 60; k++) {
                x.turn(k % 2 == 0);
            }
        }
        EXPECT.holds("2000 epochs end", x.told(0) == 0);
    }

    private static List<Long> answers(LeaderRows x, Random random, int calls) {
        List<Long> answers = new ArrayList<>();
        while (answers.size() < calls) {
            answers.add(anyCall(x, random));
        }
        return answers;
    }

    private static long anyCall(LeaderRows x, Random random) {
        int a = random.nextInt(14) - 1;
        int b = random.nextInt(8) == 0 ? random.nextInt() : random.nextInt(63) - 1;
        long n = random.nextInt(3);
        boolean yes = random.nextBoolean();
        return switch (random.nextInt(19)) {
            case 0 -> x.weight(a, b);
            case 1 -> x.deposit(a, b);
            case 2 -> x.term(a, b);
            case 3 -> x.begin();
            case 4 -> x.commit(a, x.digest(a, n));
            case 5 -> x.opening();
            case 6 -> x.open(a, n);
            case 7 -> x.draw(b);
            case 8 -> x.turn(yes);
            case 9 -> x.leader(b);
            case 10 -> x.drawn(b);
            case 11 -> x.claim(a);
            case 12 -> x.check();
            case 13 -> x.would(a, n, yes, b);
            case 14 -> x.choices();
            case 15 -> x.digest(a, n);
            case 16 -> x.node(a, b);
            case 17 -> x.amount(a);
            default -> x.told(b);
        };
    }

    // ---- not promised

    private static void whatEachObjectHas() {
        LeaderRows x = Scenes.with(3, 5);
        Scenes.drawWithout(x, 4);
        List<Long> seen = Scenes.seen(x);
        notPromised("the text of toString and the behaviour of equals and hashCode");
        EXPECT.holds("an object has a text", x.toString() != null);
        EXPECT.holds("an object is alike to itself", x.equals(x) && x.hashCode() == x.hashCode());
        EXPECT.holds("asking for them changes nothing", Scenes.seen(x).equals(seen));
        notPromised("How the state is held inside the object is free, as are the speed of each call");
        LeaderRows other = Scenes.with(3, 9, 4, 9);
        other.term(0, 50);
        other.claim(4);
        Scenes.withholdIn(other, 3);
        EXPECT.holds("it is held inside the object", Scenes.seen(x).equals(seen));
        due("claim(3)", x.claim(3), 1);
    }

    private static void objectsInThreadsOfTheirOwn() throws Exception {
        notPromised("Use of one object from several threads at once is not promised to be safe");
        List<List<Long>> got = new ArrayList<>();
        List<Thread> threads = new ArrayList<>();
        for (int i = 0; i < 4; i++) {
            int run = i;
            got.add(new ArrayList<>());
            threads.add(new Thread(() -> got.get(run).addAll(answers(new LeaderRows(), new Random(run), MOST_CALLS))));
            threads.get(i).start();
        }
        for (int i = 0; i < 4; i++) {
            threads.get(i).join();
            EXPECT.holds("an object in a thread of its own answers as alone", got.get(i).equals(answers(new LeaderRows(), new Random(i), MOST_CALLS)));
        }
    }

    private static void sameCallsSameAnswers() {
        notPromised("Nothing is promised beyond the answers and state changes described above");
        for (int run = 0; run < 50; run++) {
            LeaderRows x = new LeaderRows();
            LeaderRows y = new LeaderRows();
            Random ofX = new Random(run);
            Random ofY = new Random(run);
            List<Long> mixed = new ArrayList<>();
            for (int call = 0; call < MOST_CALLS; call++) {
                mixed.add(anyCall(x, ofX));
                anyCall(y, new Random(call));
            }
            EXPECT.holds("calls on another object do not count", mixed.equals(answers(new LeaderRows(), ofY, MOST_CALLS)));
        }
    }
}
