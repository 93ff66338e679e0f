/**
 * Each promise of the document on its own: ordinary inputs, the edges that it names, wrong inputs.
 * The rows and seeds that stand here were reckoned outside this program, from the document's words.
 */
public final class PromisesTest {
    private static final int BAD = -1, NONE = -2, NOT = -3;
    private static final long MOST = 1_000_000_000_000L;
    private static final int[] NO_NODES = {-1, 12, 13, 99, Integer.MIN_VALUE, Integer.MAX_VALUE};
    private static final Expect EXPECT = new Expect();
    private static final long SEED_1 = -2152535657050944081L, SEED_2 = -5511663747979980962L, SEED_3 = 8400972143974238905L;
    private static final long DIGEST_0_MIN = 7568450554649527987L, DIGEST_11_MAX = 5700368949767574054L, DIGEST_11_MINUS = 6859762210871753562L;

    public static void main(String[] args) {
        newObject();
        weight();
        deposit();
        term();
        begin();
        commit();
        opening();
        open();
        draw();
        rowByWait();
        withholders();
        seedGoesOn();
        turn();
        patience();
        leaderAndDrawn();
        claimAndCheck();
        would();
        choices();
        digest();
        node();
        amount();
        told();
        EXPECT.finish();
    }

    private static void due(String call, long got, long want) {
        EXPECT.due(call, got, want);
    }

    // ---- ways into a state

    private static LeaderRows with(int... nodesAndWeights) {
        LeaderRows x = new LeaderRows();
        for (int i = 0; i + 1 < nodesAndWeights.length; i += 2) {
            x.weight(nodesAndWeights[i], nodesAndWeights[i + 1]);
            x.deposit(nodesAndWeights[i], 1000);
        }
        return x;
    }

    private static LeaderRows inPhase(int phase) {
        LeaderRows x = with(3, 5);
        if (phase >= 1) {
            x.begin();
        }
        if (phase >= 2) {
            x.opening();
        }
        if (phase >= 3) {
            x.draw(60);
        }
        due("told(0) in phase " + phase, x.told(0), phase);
        return x;
    }

    /** Goes through a whole EPOCH in which nobody COMMITS and each TURN is done. */
    private static void passEpoch(LeaderRows x) {
        x.begin();
        x.opening();
        x.draw(1);
        x.turn(true);
        due("told(0) behind an epoch", x.told(0), 0);
    }

    /** Nodes 0, 4, 7, 11 with WEIGHTS 1, 2, 5, 4; all COMMITTED, all but 7 OPENED. */
    private static LeaderRows fourOpening(int factor) {
        LeaderRows x = with(0, 1, 4, 2, 7, 5, 11, 4);
        x.term(0, factor);
        x.begin();
        x.commit(11, 1555025357763593368L);
        x.commit(7, -3894181697266140890L);
        x.commit(4, -6938619373651621436L);
        x.commit(0, -540633809058417771L);
        x.opening();
        x.open(11, 1L << 40);
        x.open(4, -7);
        x.open(0, 100);
        return x;
    }

    private static void dueRow(String row, LeaderRows x, int... leaders) {
        for (int k = 0; k < leaders.length; k++) {
            due(row + ": leader(" + k + ")", x.leader(k), leaders[k]);
        }
        due(row + ": leader behind its end", x.leader(leaders.length), NONE);
        due(row + ": told(2)", x.told(2), leaders.length);
    }

    private static void dueDrawn(String row, LeaderRows x, int... numbers) {
        for (int k = 0; k < numbers.length; k++) {
            due(row + ": drawn(" + k + ")", x.drawn(k), numbers[k]);
        }
        due(row + ": drawn behind its end", x.drawn(numbers.length), NONE);
    }

    // ---- 1

    private static void newObject() {
        LeaderRows x = new LeaderRows();
        int[] firstTold = {0, 0, 0, 0, 0, 3, 10, 2, 3};
        for (int what = 0; what < firstTold.length; what++) {
            due("new: told(" + what + ")", x.told(what), firstTold[what]);
        }
        for (int node = 0; node < 12; node++) {
            for (int what = 0; what <= 8; what++) {
                due("new: node(" + node + ", " + what + ")", x.node(node, what), 0);
            }
        }
        for (int what = 0; what <= 14; what++) {
            due("new: amount(" + what + ")", x.amount(what), 0);
        }
        due("new: leader(0)", x.leader(0), NONE);
        due("new: drawn(0)", x.drawn(0), NONE);
        due("new: choices()", x.choices(), 0);
        due("new: check()", x.check(), NONE);
        due("new: begin()", x.begin(), 0);
        LeaderRows one = with(3, 5);
        LeaderRows other = new LeaderRows();
        due("another object: node(3, 0)", other.node(3, 0), 0);
        due("this object: node(3, 0)", one.node(3, 0), 5);
        one.term(0, 7);
        due("another object: told(5)", new LeaderRows().told(5), 3);
    }

    // ---- 2

    private static void weight() {
        LeaderRows x = new LeaderRows();
        due("weight(0, 1000)", x.weight(0, 1000), 0);
        due("weight(0, 0)", x.weight(0, 0), 1000);
        due("weight(0, 7)", x.weight(0, 7), 0);
        due("weight(11, 1)", x.weight(11, 1), 0);
        for (int node : NO_NODES) {
            due("weight(" + node + ", 1)", x.weight(node, 1), BAD);
        }
        for (int w : new int[] {-1, 1001, Integer.MIN_VALUE, Integer.MAX_VALUE}) {
            due("weight(0, " + w + ")", x.weight(0, w), BAD);
        }
        due("node(0, 0)", x.node(0, 0), 7);
        due("node(11, 0)", x.node(11, 0), 1);
        for (int phase = 1; phase <= 3; phase++) {
            LeaderRows y = inPhase(phase);
            due("weight(3, 6) in phase " + phase, y.weight(3, 6), NOT);
            due("weight(3, 1001) in phase " + phase, y.weight(3, 1001), BAD);
            due("weight(12, 6) in phase " + phase, y.weight(12, 6), BAD);
            due("node(3, 0) in phase " + phase, y.node(3, 0), 5);
        }
    }

    // ---- 3

    private static void deposit() {
        LeaderRows x = new LeaderRows();
        due("deposit(0, 10^12)", x.deposit(0, MOST), MOST);
        due("deposit(0, 1)", x.deposit(0, 1), BAD);
        due("deposit(0, -10^12)", x.deposit(0, -MOST), 0);
        due("deposit(0, -1)", x.deposit(0, -1), BAD);
        due("deposit(0, 10^12 + 1)", x.deposit(0, MOST + 1), BAD);
        due("deposit(11, 5)", x.deposit(11, 5), 5);
        due("deposit(11, 0)", x.deposit(11, 0), 5);
        due("deposit(11, -2)", x.deposit(11, -2), 3);
        for (long more : new long[] {Long.MAX_VALUE, Long.MAX_VALUE - 2, Long.MIN_VALUE, Long.MIN_VALUE + 2, 1L << 32, -(1L << 32)}) {
            due("deposit(11, " + more + ")", x.deposit(11, more), more == 1L << 32 ? (1L << 32) + 3 : more == -(1L << 32) ? 3 : BAD);
        }
        due("amount(13)", x.amount(13), 3);
        due("amount(2)", x.amount(2), 0);
        for (int node : NO_NODES) {
            due("deposit(" + node + ", 1)", x.deposit(node, 1), BAD);
        }
        for (int phase = 1; phase <= 3; phase++) {
            LeaderRows y = inPhase(phase);
            due("deposit(3, 6) in phase " + phase, y.deposit(3, 6), NOT);
            due("deposit(3, -1001) in phase " + phase, y.deposit(3, -1001), BAD);
            due("deposit(3, 10^12) in phase " + phase, y.deposit(3, MOST), BAD);
            due("deposit(12, 6) in phase " + phase, y.deposit(12, 6), BAD);
            due("amount(5) in phase " + phase, y.amount(5), 1000);
        }
    }

    // ---- 4

    private static void term() {
        int[] least = {0, 0, 1, 1};
        int[] most = {100, 100, 20, 20};
        int[] first = {3, 10, 2, 3};
        LeaderRows x = new LeaderRows();
        for (int what = 0; what < 4; what++) {
            due("term(" + what + ", least)", x.term(what, least[what]), first[what]);
            due("term(" + what + ", most)", x.term(what, most[what]), least[what]);
            due("term(" + what + ", most + 1)", x.term(what, most[what] + 1), BAD);
            due("term(" + what + ", least - 1)", x.term(what, least[what] - 1), BAD);
            due("term(" + what + ", MIN)", x.term(what, Integer.MIN_VALUE), BAD);
            due("term(" + what + ", MAX)", x.term(what, Integer.MAX_VALUE), BAD);
            due("told(" + (5 + what) + ")", x.told(5 + what), most[what]);
        }
        for (int what : new int[] {-1, 4, 5, Integer.MIN_VALUE, Integer.MAX_VALUE}) {
            due("term(" + what + ", 1)", x.term(what, 1), BAD);
        }
        for (int phase = 1; phase <= 3; phase++) {
            LeaderRows y = inPhase(phase);
            due("term(0, 6) in phase " + phase, y.term(0, 6), NOT);
            due("term(0, 101) in phase " + phase, y.term(0, 101), BAD);
            due("term(4, 6) in phase " + phase, y.term(4, 6), BAD);
            due("told(5) in phase " + phase, y.told(5), 3);
        }
    }

    // ---- 5

    private static void begin() {
        LeaderRows x = with(0, 1, 11, 1000);
        x.weight(5, 9);
        x.deposit(6, 9);
        due("begin()", x.begin(), 2);
        due("told(1)", x.told(1), 1);
        due("told(0)", x.told(0), 1);
        int[] members = {1, 0, 0, 0, 0, 0, 0, 0, 0, 0, 0, 1};
        for (int node = 0; node < 12; node++) {
            due("node(" + node + ", 5)", x.node(node, 5), members[node]);
        }
        for (int phase = 1; phase <= 3; phase++) {
            LeaderRows y = inPhase(phase);
            due("begin() in phase " + phase, y.begin(), NOT);
            due("told(1) in phase " + phase, y.told(1), 1);
            due("told(0) in phase " + phase, y.told(0), phase);
        }
        LeaderRows all = new LeaderRows();
        for (int node = 0; node < 12; node++) {
            all.weight(node, 1);
            all.deposit(node, 1);
        }
        due("begin() of all", all.begin(), 12);
        comesBack();
    }

    private static void comesBack() {
        LeaderRows x = with(3, 5, 4, 1, 6, 1);
        x.term(2, 1);
        x.begin();
        x.commit(3, 0);
        x.commit(4, 0);
        x.opening();
        due("draw(1) with two aside", x.draw(1), 1);
        due("turn(true)", x.turn(true), 0);
        due("node(3, 4) in rest", x.node(3, 4), 2);
        x.weight(4, 0);
        due("begin() of epoch 2, the last one aside", x.begin(), 1);
        due("node(3, 4) in epoch 2", x.node(3, 4), 2);
        due("node(3, 5) in epoch 2", x.node(3, 5), 0);
        due("commit(3, 1) aside", x.commit(3, 1), NOT);
        x.opening();
        due("draw(1) without them", x.draw(1), 1);
        x.turn(true);
        due("node(3, 4) behind epoch 2", x.node(3, 4), 2);
        due("begin() of epoch 3", x.begin(), 2);
        due("node(3, 4) in epoch 3", x.node(3, 4), 0);
        due("node(3, 5) in epoch 3", x.node(3, 5), 1);
        due("node(4, 4) in epoch 3, without weight", x.node(4, 4), 0);
        due("node(4, 5) in epoch 3, without weight", x.node(4, 5), 0);
    }

    // ---- 6

    private static void commit() {
        LeaderRows x = with(0, 1, 4, 2, 11, 4);
        due("commit(0, 0) in rest", x.commit(0, 0), NOT);
        x.begin();
        due("commit(11, 0)", x.commit(11, 0), 1);
        due("commit(11, 0) again", x.commit(11, 0), NOT);
        due("commit(0, MIN)", x.commit(0, Long.MIN_VALUE), 2);
        due("commit(1, 5), no member", x.commit(1, 5), NOT);
        for (int node : NO_NODES) {
            due("commit(" + node + ", 5)", x.commit(node, 5), BAD);
        }
        due("node(11, 6)", x.node(11, 6), 1);
        due("node(0, 6)", x.node(0, 6), 1);
        due("node(1, 6)", x.node(1, 6), 0);
        due("node(4, 6)", x.node(4, 6), 0);
        due("opening()", x.opening(), 2);
        due("commit(4, 5) in phase 2", x.commit(4, 5), NOT);
        due("commit(12, 5) in phase 2", x.commit(12, 5), BAD);
        x.draw(1);
        due("commit(4, 5) in phase 3", x.commit(4, 5), NOT);
        LeaderRows y = with(2, 1);
        y.begin();
        y.commit(2, y.digest(2, 44));
        y.commit(2, y.digest(2, 45));
        y.opening();
        due("open(2, 45), refused digest", y.open(2, 45), NOT);
        due("open(2, 44)", y.open(2, 44), 1);
    }

    // ---- 7

    private static void opening() {
        LeaderRows x = with(0, 1, 4, 2, 11, 4);
        due("opening() in rest", x.opening(), NOT);
        x.begin();
        x.commit(4, 5);
        x.commit(11, 5);
        due("opening()", x.opening(), 2);
        due("told(0)", x.told(0), 2);
        due("opening() again", x.opening(), NOT);
        x.draw(5);
        due("opening() in phase 3", x.opening(), NOT);
        due("told(0)", x.told(0), 3);
        LeaderRows none = new LeaderRows();
        none.begin();
        due("opening() of none", none.opening(), 0);
    }

    // ---- 8

    private static void open() {
        LeaderRows x = with(0, 1, 4, 2, 11, 4);
        due("open(0, 5) in rest", x.open(0, 5), NOT);
        x.begin();
        x.commit(0, x.digest(0, -9));
        x.commit(11, x.digest(0, 8));
        due("open(0, -9) in phase 1", x.open(0, -9), NOT);
        x.opening();
        due("open(0, 9)", x.open(0, 9), NOT);
        due("node(0, 7)", x.node(0, 7), 0);
        due("open(0, -9)", x.open(0, -9), 1);
        due("node(0, 7)", x.node(0, 7), 1);
        due("open(0, -9) again", x.open(0, -9), NOT);
        due("open(11, 8), another node's digest", x.open(11, 8), NOT);
        due("open(4, 0), did not commit", x.open(4, 0), NOT);
        due("open(5, 0), no member", x.open(5, 0), NOT);
        for (int node : NO_NODES) {
            due("open(" + node + ", 5)", x.open(node, 5), BAD);
        }
        x.draw(60);
        due("open(11, 8) in phase 3", x.open(11, 8), NOT);
        due("open(12, 8) in phase 3", x.open(12, 8), BAD);
        LeaderRows y = fourOpening(3);
        due("open(7, 3)", y.open(7, 3), 4);
    }

    // ---- 9

    private static void draw() {
        LeaderRows x = fourOpening(3);
        due("draw(0)", x.draw(0), BAD);
        due("draw(61)", x.draw(61), BAD);
        due("draw(MIN)", x.draw(Integer.MIN_VALUE), BAD);
        due("draw(MAX)", x.draw(Integer.MAX_VALUE), BAD);
        due("amount(0) ahead of draw", x.amount(0), 0);
        due("draw(12)", x.draw(12), 3);
        due("amount(0)", x.amount(0), -1405366102848262205L);
        due("told(4)", x.told(4), 7);
        dueRow("factor 3", x, 11, 11, 4, 11, 11, 11, 11, 11, 4, 11, 4, 0);
        dueDrawn("factor 3", x, 1, 1, 1, 1, 1, 1, 1, 1, 1, 1, 1, 1);
        due("draw(12) in phase 3", x.draw(12), NOT);
        due("draw(0) in phase 3", x.draw(0), BAD);
        for (int phase = 0; phase <= 1; phase++) {
            LeaderRows y = inPhase(phase);
            due("draw(3) in phase " + phase, y.draw(3), NOT);
            due("draw(61) in phase " + phase, y.draw(61), BAD);
        }
        LeaderRows sixty = fourOpening(3);
        due("draw(60)", sixty.draw(60), 3);
        dueRow("sixty", sixty, 11, 11, 4, 11, 11, 11, 11, 11, 4, 11, 4, 0, 11, 11, 0, 4, 4, 11, 11, 11,
            11, 11, 11, 11, 11, 11, 11, 11, 4, 0, 0, 0, 0, 4, 11, 11, 0, 4, 4, 11,
            11, 0, 11, 4, 11, 11, 11, 11, 4, 11, 4, 11, 11, 11, 11, 4, 11, 4, 11, 4);
        due("drawn(28), by wait", sixty.drawn(28), 0);
        due("drawn(34), by wait", sixty.drawn(34), 0);
        due("node(0, 1)", sixty.node(0, 1), 18);
        due("node(4, 1)", sixty.node(4, 1), 0);
        due("node(7, 1), withheld", sixty.node(7, 1), 0);
        due("node(11, 1)", sixty.node(11, 1), 1);
    }

    private static void rowByWait() {
        LeaderRows never = fourOpening(0);
        due("draw(20)", never.draw(20), 3);
        dueRow("factor 0", never, 11, 11, 4, 11, 11, 11, 11, 11, 4, 11, 4, 0, 11, 11, 0, 4, 4, 11, 11, 11);
        dueDrawn("factor 0", never, 1, 1, 1, 1, 1, 1, 1, 1, 1, 1, 1, 1, 1, 1, 1, 1, 1, 1, 1, 1);
        LeaderRows soon = fourOpening(1);
        due("draw(20)", soon.draw(20), 3);
        dueRow("factor 1", soon, 11, 11, 4, 11, 11, 11, 11, 4, 0, 11, 11, 4, 11, 4, 0, 11, 11, 11, 4, 0);
        dueDrawn("factor 1", soon, 1, 1, 1, 1, 1, 1, 1, 0, 0, 0, 1, 1, 1, 1, 1, 0, 1, 1, 0, 1);
        due("node(0, 1)", soon.node(0, 1), 0);
        due("node(4, 1)", soon.node(4, 1), 1);
        due("node(11, 1)", soon.node(11, 1), 2);
        LeaderRows alike = with(2, 6, 9, 6);
        alike.term(0, 1);
        alike.begin();
        alike.opening();
        alike.draw(60);
        for (int k = 2; k < 60; k++) {
            boolean twice = alike.leader(k - 1) == alike.leader(k - 2);
            due("alike: drawn(" + k + ")", alike.drawn(k), twice ? 0 : 1);
        }
        leastOfSeveral();
    }

    /** Of twelve nodes alike, those that did not lead in twelve TURNS wait alike: the least is first. */
    private static void leastOfSeveral() {
        LeaderRows x = new LeaderRows();
        for (int node = 0; node < 12; node++) {
            x.weight(node, 9);
            x.deposit(node, 1);
        }
        x.term(0, 1);
        x.begin();
        x.opening();
        x.draw(60);
        boolean[] led = new boolean[12];
        for (int k = 0; k < 12; k++) {
            due("twelve alike: drawn(" + k + ")", x.drawn(k), 1);
            led[x.leader(k)] = true;
        }
        int k = 12;
        for (int node = 0; node < 12; node++) {
            if (!led[node]) {
                due("twelve alike: leader(" + k + ")", x.leader(k), node);
                due("twelve alike: drawn(" + k + ")", x.drawn(k), 0);
                k++;
            }
        }
        EXPECT.holds("several waited alike", k > 13);
    }

    private static void withholders() {
        LeaderRows x = with(0, 10, 11, 20, 3, 30);
        x.deposit(0, 99 - 1000);
        x.deposit(11, MOST - 1000);
        x.term(1, 33);
        x.term(2, 20);
        x.begin();
        x.commit(0, 0);
        x.commit(11, 0);
        x.opening();
        due("draw(2) with two that withhold", x.draw(2), 1);
        due("told(4)", x.told(4), 30);
        due("amount(2), cut off", x.amount(2), 99 - 32);
        due("amount(13)", x.amount(13), MOST - 330_000_000_000L);
        due("amount(5), did not commit", x.amount(5), 1000);
        due("amount(1)", x.amount(1), 330_000_000_032L);
        due("node(0, 4)", x.node(0, 4), 21);
        due("node(11, 4)", x.node(11, 4), 21);
        due("node(3, 4)", x.node(3, 4), 0);
        due("node(0, 5) in phase 3", x.node(0, 5), 1);
        due("node(0, 6) in phase 3", x.node(0, 6), 1);
        due("node(0, 7) in phase 3", x.node(0, 7), 0);
        due("node(0, 1), its wait stays", x.node(0, 1), 0);
        allOfIt();
        noneOfIt();
    }

    private static void allOfIt() {
        LeaderRows x = with(1, 10);
        x.term(1, 100);
        x.term(2, 1);
        x.begin();
        x.commit(1, 0);
        x.opening();
        due("draw(2) without electors", x.draw(2), 0);
        due("told(0)", x.told(0), 0);
        due("told(4)", x.told(4), 0);
        due("amount(3)", x.amount(3), 0);
        due("amount(1)", x.amount(1), 1000);
        due("node(1, 5)", x.node(1, 5), 0);
        passEpochWithout(x);
        due("begin() without its deposit", x.begin(), 0);
        due("node(1, 4)", x.node(1, 4), 0);
    }

    private static void noneOfIt() {
        LeaderRows x = with(1, 10);
        x.term(1, 0);
        x.begin();
        x.commit(1, 0);
        x.opening();
        x.draw(2);
        due("amount(3), penalty 0", x.amount(3), 1000);
        due("amount(1), penalty 0", x.amount(1), 0);
        due("node(1, 4), penalty 0", x.node(1, 4), 3);
    }

    private static void passEpochWithout(LeaderRows x) {
        due("begin() of none", x.begin(), 0);
        due("opening() of none", x.opening(), 0);
        due("draw(60) of none", x.draw(60), 0);
        due("told(0)", x.told(0), 0);
    }

    /** The SEED goes on from EPOCH to EPOCH, also when nobody is there. */
    private static void seedGoesOn() {
        LeaderRows x = new LeaderRows();
        passEpochWithout(x);
        due("amount(0) behind epoch 1", x.amount(0), SEED_1);
        passEpochWithout(x);
        due("amount(0) behind epoch 2", x.amount(0), SEED_2);
        x.begin();
        due("amount(0) in epoch 3", x.amount(0), SEED_2);
        x.opening();
        due("amount(0) in epoch 3", x.amount(0), SEED_2);
        x.draw(1);
        due("amount(0) behind epoch 3", x.amount(0), SEED_3);
    }

    // ---- 10

    private static void turn() {
        LeaderRows x = fourOpening(3);
        due("turn(true) in phase 2", x.turn(true), NOT);
        due("turn(false) in phase 2", x.turn(false), NOT);
        x.draw(4);
        due("turn(true)", x.turn(true), 3);
        due("told(3)", x.told(3), 1);
        due("turn(false)", x.turn(false), 2);
        due("turn(false)", x.turn(false), 1);
        due("told(0)", x.told(0), 3);
        due("told(3)", x.told(3), 3);
        due("turn(true)", x.turn(true), 0);
        due("told(0)", x.told(0), 0);
        due("told(3)", x.told(3), 0);
        due("turn(true) in rest", x.turn(true), NOT);
        due("node(11, 2)", x.node(11, 2), 2);
        due("node(11, 3)", x.node(11, 3), 1);
        due("node(4, 2)", x.node(4, 2), 0);
        due("node(4, 3)", x.node(4, 3), 1);
        due("node(4, 8), its own turns alone", x.node(4, 8), 1);
        due("node(11, 8)", x.node(11, 8), 0);
        due("node(0, 3)", x.node(0, 3), 0);
        for (int phase = 0; phase <= 2; phase++) {
            due("turn(false) in phase " + phase, inPhase(phase).turn(false), NOT);
        }
    }

    private static void patience() {
        LeaderRows x = with(3, 5);
        x.term(3, 4);
        missIn(x, 2);
        due("node(3, 8) behind epoch 1", x.node(3, 8), 2);
        missIn(x, 1);
        due("node(3, 8) behind epoch 2", x.node(3, 8), 3);
        due("node(3, 4) behind epoch 2", x.node(3, 4), 0);
        x.term(3, 2);
        due("node(3, 4), a term alone", x.node(3, 4), 0);
        x.term(2, 20);
        missIn(x, 1);
        due("node(3, 4), more than patience", x.node(3, 4), 23);
        due("node(3, 8), counts anew", x.node(3, 8), 0);
        due("node(3, 3)", x.node(3, 3), 4);
        due("begin()", x.begin(), 0);
        LeaderRows y = with(3, 5);
        y.term(3, 1);
        missIn(y, 5);
        due("node(3, 4), patience 1", y.node(3, 4), 3);
        due("node(3, 3), patience 1", y.node(3, 3), 5);
        due("node(3, 8), patience 1", y.node(3, 8), 0);
        due("amount(5), a missed turn costs nothing", y.amount(5), 1000);
    }

    private static void missIn(LeaderRows x, int turns) {
        due("begin()", x.begin(), 1);
        x.opening();
        x.draw(turns);
        for (int k = 0; k < turns; k++) {
            due("turn(false)", x.turn(false), turns - 1 - k);
        }
    }

    // ---- 11, 12

    private static void leaderAndDrawn() {
        LeaderRows x = fourOpening(1);
        x.draw(9);
        for (int phase = 0; phase < 4; phase++) {
            for (int k : new int[] {-1, Integer.MIN_VALUE}) {
                due("leader(" + k + ")", x.leader(k), BAD);
                due("drawn(" + k + ")", x.drawn(k), BAD);
            }
            for (int k : new int[] {9, 10, 59, 60, 61, Integer.MAX_VALUE}) {
                due("leader(" + k + ")", x.leader(k), NONE);
                due("drawn(" + k + ")", x.drawn(k), NONE);
            }
            due("leader(7)", x.leader(7), 4);
            due("drawn(7)", x.drawn(7), 0);
            due("leader(8)", x.leader(8), 0);
            due("drawn(8)", x.drawn(8), 0);
            due("leader(0)", x.leader(0), 11);
            due("drawn(0)", x.drawn(0), 1);
            goOn(x);
        }
        x.draw(60);
        due("leader(59) of the next row", x.leader(59) >= 0 ? 1 : 0, 1);
        LeaderRows y = with(3, 5);
        passEpoch(y);
        due("leader(0)", y.leader(0), 3);
        y.weight(3, 0);
        passEpochWithout(y);
        due("leader(0) of an empty row", y.leader(0), NONE);
        due("drawn(0) of an empty row", y.drawn(0), NONE);
        due("told(2) of an empty row", y.told(2), 0);
    }

    /** Into the next PHASE, without a new ROW. */
    private static void goOn(LeaderRows x) {
        if (x.told(0) == 3) {
            while (x.turn(true) > 0) {
                due("told(0)", x.told(0), 3);
            }
        } else if (x.told(0) == 0) {
            x.begin();
        } else {
            x.opening();
        }
    }

    // ---- 13, 14

    private static void claimAndCheck() {
        LeaderRows x = fourOpening(3);
        x.draw(12);
        int[] row = {11, 11, 4, 11, 11, 11, 11, 11, 4, 11, 4, 0};
        claimAll(x, row);
        due("check() of all", x.check(), NONE);
        due("check() of none, emptied", x.check(), 0);
        for (int k = 0; k < row.length; k++) {
            int[] other = row.clone();
            other[k] = 7;
            claimAll(x, other);
            due("check(), other at " + k, x.check(), k);
        }
        claimAll(x, row);
        due("claim(0) behind the end", x.claim(0), 13);
        due("check() of one more", x.check(), 12);
        claimAll(x, java.util.Arrays.copyOf(row, 11));
        due("check() of one less", x.check(), 11);
        for (int k = 1; k <= 60; k++) {
            due("claim(11)", x.claim(11), k);
        }
        due("claim(11), full", x.claim(11), NOT);
        due("claim(12), full", x.claim(12), BAD);
        due("check() of sixty", x.check(), 2);
        for (int node : NO_NODES) {
            due("claim(" + node + ")", x.claim(node), BAD);
        }
        due("claim(0)", x.claim(0), 1);
        due("check()", x.check(), 0);
        LeaderRows y = fourOpening(3);
        claimAll(y, row);
        due("draw(12) behind the claim", y.draw(12), 3);
        while (y.turn(false) > 0) {
            due("told(0)", y.told(0), 3);
        }
        due("check() behind the epoch", y.check(), NONE);
        LeaderRows none = new LeaderRows();
        due("check() without a row", none.check(), NONE);
        due("claim(5) without a row", none.claim(5), 1);
        due("check() without a row", none.check(), 0);
        due("check() without a row", none.check(), NONE);
    }

    private static void claimAll(LeaderRows x, int[] leaders) {
        for (int k = 0; k < leaders.length; k++) {
            due("claim(" + leaders[k] + ")", x.claim(leaders[k]), k + 1);
        }
    }

    // ---- 15

    private static void would() {
        LeaderRows x = fourOpening(3);
        due("would(7, 3, true, 1)", x.would(7, 3, true, 1), 1);
        due("would(7, 3, true, 12)", x.would(7, 3, true, 12), 6);
        due("would(7, 3, true, 60)", x.would(7, 3, true, 60), 22);
        due("would(7, 3, true, 12) again", x.would(7, 3, true, 12), 6);
        due("would(7, 3, false, 60)", x.would(7, 3, false, 60), 0);
        due("would(7, 4, false, 60)", x.would(7, 4, false, 60), 0);
        due("would(7, 4, true, 60)", x.would(7, 4, true, 60), NOT);
        due("would(0, 100, true, 60), did open", x.would(0, 100, true, 60), NOT);
        due("would(0, 100, false, 60), did open", x.would(0, 100, false, 60), NOT);
        due("would(1, 100, false, 60), no member", x.would(1, 100, false, 60), NOT);
        due("would(7, 3, true, 0)", x.would(7, 3, true, 0), BAD);
        due("would(7, 3, true, 61)", x.would(7, 3, true, 61), BAD);
        due("would(7, 3, false, 61)", x.would(7, 3, false, 61), BAD);
        due("would(1, 3, false, 61)", x.would(1, 3, false, 61), BAD);
        for (int node : NO_NODES) {
            due("would(" + node + ", 3, true, 1)", x.would(node, 3, true, 1), BAD);
            due("would(" + node + ", 3, false, 1)", x.would(node, 3, false, 1), BAD);
        }
        due("node(7, 7), nothing changes", x.node(7, 7), 0);
        due("node(0, 1), nothing changes", x.node(0, 1), 0);
        due("node(7, 4), nothing changes", x.node(7, 4), 0);
        due("amount(0), nothing changes", x.amount(0), 0);
        due("amount(1), nothing changes", x.amount(1), 0);
        due("choices(), nothing changes", x.choices(), 1);
        due("told(0), nothing changes", x.told(0), 2);
        due("told(2), nothing changes", x.told(2), 0);
        due("told(4), nothing changes", x.told(4), 0);
        due("draw(12) behind it", x.draw(12), 3);
        dueRow("behind would", x, 11, 11, 4, 11, 11, 11, 11, 11, 4, 11, 4, 0);
        due("would(7, 3, true, 12) in phase 3", x.would(7, 3, true, 12), NOT);
        due("would(0, 3, false, 61) in phase 3", x.would(0, 3, false, 61), BAD);
        due("would(7, 3, true, 60), factor 0", fourOpening(0).would(7, 3, true, 60), 23);
        for (int phase = 0; phase <= 2; phase++) {
            LeaderRows y = inPhase(phase);
            due("would(3, 0, false, 1) in phase " + phase, y.would(3, 0, false, 1), NOT);
            due("would(3, 0, true, 1) in phase " + phase, y.would(3, 0, true, 1), NOT);
        }
        wouldIsWhatComes();
    }

    /** What would() told is what a draw then makes, and the ROW ahead of it stays until then. */
    private static void wouldIsWhatComes() {
        LeaderRows x = fourOpening(2);
        x.draw(30);
        while (x.turn(true) > 0) {
            due("told(0)", x.told(0), 3);
        }
        x.begin();
        x.commit(4, x.digest(4, 12345));
        x.commit(11, x.digest(11, 54321));
        x.opening();
        x.open(4, 12345);
        int leads = x.would(11, 54321, true, 40);
        due("told(2), the row ahead", x.told(2), 30);
        due("leader(0), the row ahead", x.leader(0), 11);
        x.open(11, 54321);
        x.draw(40);
        int led = 0;
        for (int k = 0; k < 40; k++) {
            led += x.leader(k) == 11 ? 1 : 0;
        }
        due("would(11, 54321, true, 40)", leads, led);
    }

    // ---- 16

    private static void choices() {
        LeaderRows x = with(0, 1, 4, 2, 7, 5, 11, 4);
        due("choices() in rest", x.choices(), 0);
        x.begin();
        for (int node : new int[] {0, 4, 11}) {
            x.commit(node, x.digest(node, node));
        }
        due("choices() in phase 1", x.choices(), 0);
        x.opening();
        due("choices()", x.choices(), 3);
        x.open(4, 4);
        due("choices()", x.choices(), 2);
        x.open(4, 4);
        x.open(0, 1);
        due("choices()", x.choices(), 2);
        x.open(0, 0);
        due("choices()", x.choices(), 1);
        x.draw(1);
        due("choices() in phase 3", x.choices(), 0);
        x.turn(true);
        due("choices() in rest", x.choices(), 0);
        x.begin();
        x.opening();
        due("choices() in the next epoch", x.choices(), 0);
    }

    // ---- 17

    private static void digest() {
        LeaderRows x = new LeaderRows();
        due("digest(0, 100)", x.digest(0, 100), -540633809058417771L);
        due("digest(4, -7)", x.digest(4, -7), -6938619373651621436L);
        due("digest(7, 3)", x.digest(7, 3), -3894181697266140890L);
        due("digest(11, 2^40)", x.digest(11, 1L << 40), 1555025357763593368L);
        due("digest(0, MIN)", x.digest(0, Long.MIN_VALUE), DIGEST_0_MIN);
        due("digest(11, MAX)", x.digest(11, Long.MAX_VALUE), DIGEST_11_MAX);
        due("digest(11, -1)", x.digest(11, -1), DIGEST_11_MINUS);
        for (int node : NO_NODES) {
            due("digest(" + node + ", 5)", x.digest(node, 5), 0);
        }
        for (int phase = 0; phase <= 3; phase++) {
            due("digest(7, 3) in phase " + phase, inPhase(phase).digest(7, 3), -3894181697266140890L);
        }
    }

    // ---- 18

    private static void node() {
        LeaderRows x = fourOpening(3);
        int[] whats = {-1, 9, 10, Integer.MIN_VALUE, Integer.MAX_VALUE};
        for (int what : whats) {
            due("node(0, " + what + ")", x.node(0, what), BAD);
        }
        for (int node : NO_NODES) {
            for (int what = 0; what <= 8; what++) {
                due("node(" + node + ", " + what + ")", x.node(node, what), BAD);
            }
        }
        dueNode(x, 4, 2, 0, 0, 0, 0, 1, 1, 1, 0);
        dueNode(x, 7, 5, 0, 0, 0, 0, 1, 1, 0, 0);
        dueNode(x, 8, 0, 0, 0, 0, 0, 0, 0, 0, 0);
        x.draw(13);
        dueNode(x, 4, 2, 2, 0, 0, 0, 1, 1, 1, 0);
        dueNode(x, 7, 5, 0, 0, 0, 0 + 3, 1, 1, 0, 0);
        dueNode(x, 0, 1, 1, 0, 0, 0, 1, 1, 1, 0);
        x.turn(true);
        x.turn(false);
        dueNode(x, 11, 4, 0, 1, 1, 0, 1, 1, 1, 1);
        while (x.turn(false) > 0) {
            due("told(0)", x.told(0), 3);
        }
        dueNode(x, 11, 4, 0, 1, 8, 3, 0, 0, 0, 2);
        dueNode(x, 4, 2, 2, 0, 3, 3, 0, 0, 0, 0);
        dueNode(x, 0, 1, 1, 0, 1, 0, 0, 0, 0, 1);
        dueNode(x, 7, 5, 0, 0, 0, 3, 0, 0, 0, 0);
        due("begin()", x.begin(), 1);
        dueNode(x, 0, 1, 1, 0, 1, 0, 1, 0, 0, 1);
        dueNode(x, 4, 2, 2, 0, 3, 3, 0, 0, 0, 0);
    }

    private static void dueNode(LeaderRows x, int node, int... answers) {
        for (int what = 0; what < answers.length; what++) {
            due("node(" + node + ", " + what + ")", x.node(node, what), answers[what]);
        }
    }

    // ---- 19

    private static void amount() {
        LeaderRows x = new LeaderRows();
        for (int node = 0; node < 12; node++) {
            x.deposit(node, 10 + node);
        }
        for (int node = 0; node < 12; node++) {
            due("amount(" + (2 + node) + ")", x.amount(2 + node), 10 + node);
        }
        for (int what : new int[] {-1, 14, 15, 99, Integer.MIN_VALUE, Integer.MAX_VALUE}) {
            due("amount(" + what + ")", x.amount(what), 0);
        }
        LeaderRows y = fourOpening(3);
        y.draw(1);
        due("amount(0)", y.amount(0), -1405366102848262205L);
        due("amount(1)", y.amount(1), 100);
        due("amount(9)", y.amount(9), 900);
        due("amount(13)", y.amount(13), 1000);
        due("amount(14)", y.amount(14), 0);
    }

    // ---- 20

    private static void told() {
        LeaderRows x = fourOpening(3);
        for (int what : new int[] {-1, 9, 10, Integer.MIN_VALUE, Integer.MAX_VALUE}) {
            due("told(" + what + ")", x.told(what), BAD);
        }
        dueTold(x, 2, 1, 0, 0, 0, 3, 10, 2, 3);
        x.draw(2);
        dueTold(x, 3, 1, 2, 0, 7, 3, 10, 2, 3);
        x.turn(true);
        dueTold(x, 3, 1, 2, 1, 7, 3, 10, 2, 3);
        x.turn(true);
        dueTold(x, 0, 1, 2, 0, 7, 3, 10, 2, 3);
        x.term(0, 4);
        x.term(1, 5);
        x.term(2, 6);
        x.term(3, 7);
        dueTold(x, 0, 1, 2, 0, 7, 4, 5, 6, 7);
        x.begin();
        dueTold(x, 1, 2, 2, 0, 7, 4, 5, 6, 7);
        x.opening();
        dueTold(x, 2, 2, 2, 0, 7, 4, 5, 6, 7);
        x.draw(1);
        dueTold(x, 3, 2, 1, 0, 7, 4, 5, 6, 7);
    }

    private static void dueTold(LeaderRows x, int... answers) {
        for (int what = 0; what < answers.length; what++) {
            due("told(" + what + ")", x.told(what), answers[what]);
        }
    }
}
