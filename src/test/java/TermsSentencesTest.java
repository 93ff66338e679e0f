import java.math.BigInteger;
import java.util.List;

/** "Terms", sentence by sentence: what a node has, MIX and DIGEST, the PHASES, what is refused, which calls go together. */
public final class TermsSentencesTest {
    private static final int BAD = Scenes.BAD, NONE = Scenes.NONE, NOT = Scenes.NOT;
    private static final Expect EXPECT = new Expect();
    private static final BigInteger TWO_64 = BigInteger.ONE.shiftLeft(64);
    private static final long[] EDGES = {0, 1, -1, 2, -2, Long.MIN_VALUE, Long.MIN_VALUE + 1, Long.MAX_VALUE, Long.MAX_VALUE - 1};

    public static void main(String[] args) {
        eachNodeHasItsOwn();
        asideWithThatEpoch();
        termsAreFour();
        numbersWrap();
        mixOfEachBit();
        mixIsAsPublished();
        phases();
        membersAreThoseThatAreIn();
        whoCommitsAndWhoOpens();
        whatADrawDoes();
        badNotNone();
        callsInRest();
        callsOfAnEpoch();
        callsOfTheLatestRow();
        callsOfWhatItWouldChange();
        callsOfWhatIsTold();
        EXPECT.finish();
    }

    private static void sentence(String words) {
        EXPECT.sentence("Terms", words);
    }

    private static void due(String call, long got, long want) {
        EXPECT.due(call, got, want);
    }

    /** Nodes 3, 4 and 6 are MEMBERS; 3 and 4 COMMIT, to 30 and 40; 4 OPENS; a ROW of 6, TURNS to be done. */
    private static LeaderRows inPhase(int phase) {
        LeaderRows x = Scenes.with(3, 5, 4, 5, 6, 7);
        if (phase >= 1) {
            x.begin();
            x.commit(3, x.digest(3, 30));
            x.commit(4, x.digest(4, 40));
        }
        if (phase >= 2) {
            x.opening();
            x.open(4, 40);
        }
        if (phase >= 3) {
            x.draw(6);
        }
        due("told(0)", x.told(0), phase);
        return x;
    }

    // ---- nodes

    private static void eachNodeHasItsOwn() {
        sentence("11 have each a WEIGHT (0 .. 1000), a DEPOSIT (0 .. 10^12), a WAIT, and how many turns they LED and MISSED");
        LeaderRows x = new LeaderRows();
        for (int node = 0; node < 12; node++) {
            x.weight(node, 20 + node);
            x.deposit(node, 500 + node);
        }
        Scenes.drawWithout(x, 60);
        int[] waits = new int[12], led = new int[12], missed = new int[12];
        for (int k = 0; k < 60; k++) {
            for (int node = 0; node < 12; node++) {
                waits[node] = node == x.leader(k) ? 0 : waits[node] + 1;
            }
            boolean done = k % 3 != 0;
            led[x.leader(k)] += done ? 1 : 0;
            missed[x.leader(k)] += done ? 0 : 1;
            x.turn(done);
        }
        for (int node = 0; node < 12; node++) {
            due("node(" + node + ", 0), its weight", x.node(node, 0), 20 + node);
            due("amount(" + (2 + node) + "), its deposit", x.amount(2 + node), 500 + node);
            due("node(" + node + ", 1), its wait", x.node(node, 1), waits[node]);
            due("node(" + node + ", 2), it led", x.node(node, 2), led[node]);
            due("node(" + node + ", 3), it missed", x.node(node, 3), missed[node]);
        }
    }

    private static void asideWithThatEpoch() {
        sentence("or ASIDE up to an EPOCH (with it)");
        LeaderRows x = Scenes.with(3, 5, 4, 5);
        Scenes.withholdIn(x, 3);
        for (int epoch = 2; epoch <= 4; epoch++) {
            due("node(3, 4) ahead of epoch " + epoch, x.node(3, 4), 3);
            due("begin() of epoch " + epoch, x.begin(), epoch <= 3 ? 1 : 2);
            due("node(3, 4) in epoch " + epoch, x.node(3, 4), epoch <= 3 ? 3 : 0);
            x.opening();
            due("draw(1)", x.draw(1), epoch <= 3 ? 1 : 2);
            x.turn(true);
        }
    }

    private static void termsAreFour() {
        sentence("TERMS: 0 FACTOR 0 .. 100 (3 at first)");
        LeaderRows x = new LeaderRows();
        int[] first = {3, 10, 2, 3};
        for (int what = 0; what < 4; what++) {
            due("told(" + (5 + what) + ")", x.told(5 + what), first[what]);
            due("term(" + what + ", " + (11 + what) + ")", x.term(what, 11 + what), first[what]);
        }
        for (int what = 0; what < 4; what++) {
            due("told(" + (5 + what) + ")", x.told(5 + what), 11 + what);
        }
        due("term(4, 1)", x.term(4, 1), BAD);
        due("term(-1, 1)", x.term(-1, 1), BAD);
    }

    // ---- MIX, G, DIGEST

    private static BigInteger wrap(long x) {
        return BigInteger.valueOf(x).mod(TWO_64);
    }

    private static BigInteger step(BigInteger x, int shift, String factor) {
        return x.xor(x.shiftRight(shift)).multiply(new BigInteger(factor, 16)).mod(TWO_64);
    }

    private static BigInteger mix(BigInteger x) {
        return step(step(step(x, 30, "BF58476D1CE4E5B9"), 27, "94D049BB133111EB"), 31, "1");
    }

    private static long digest(int node, long number) {
        BigInteger times = new BigInteger("9E3779B97F4A7C15", 16).multiply(BigInteger.valueOf(node + 1));
        return mix(mix(wrap(number)).add(times).mod(TWO_64)).longValue();
    }

    private static void numbersWrap() {
        sentence("Numbers are longs that wrap");
        LeaderRows x = new LeaderRows();
        for (int node = 0; node < 12; node++) {
            for (long number : EDGES) {
                due("digest(" + node + ", " + number + ")", x.digest(node, number), digest(node, number));
            }
        }
    }

    private static void mixOfEachBit() {
        sentence("MIX of x: x becomes x ^ x >>> 30, times 0xBF58476D1CE4E5B9; x ^ x >>> 27, times 0x94D049BB133111EB; x ^ x >>> 31");
        LeaderRows x = new LeaderRows();
        for (int bit = 0; bit < 64; bit++) {
            due("digest(0, 1 << " + bit + ")", x.digest(0, 1L << bit), digest(0, 1L << bit));
            due("digest(11, ~(1 << " + bit + "))", x.digest(11, ~(1L << bit)), digest(11, ~(1L << bit)));
        }
        sentence("The DIGEST of a node's NUMBER is MIX(MIX(NUMBER) + (node + 1) G)");
        for (int node = 0; node < 12; node++) {
            for (int other = 0; other < node; other++) {
                EXPECT.holds("nodes " + other + " and " + node + " have digests of their own", x.digest(other, 7) != x.digest(node, 7));
            }
            due("digest(" + node + ", 7)", x.digest(node, 7), digest(node, 7));
        }
    }

    /** MIX of 0 is 0, so that the digests of 0 are the numbers that SplitMix64 is known to bring from 0. */
    private static void mixIsAsPublished() {
        sentence("G is 0x9E3779B97F4A7C15");
        String[] known = {"16294208416658607535", "7960286522194355700", "487617019471545679", "17909611376780542444",
            "1961750202426094747", "6038094601263162090", "3207296026000306913", "14232521865600346940"};
        LeaderRows x = new LeaderRows();
        for (int node = 0; node < known.length; node++) {
            due("digest(" + node + ", 0)", x.digest(node, 0), Long.parseUnsignedLong(known[node]));
        }
        Scenes.drawWithout(x, 1);
        due("amount(0), MIX of G", x.amount(0), Long.parseUnsignedLong(known[0]));
    }

    // ---- phases

    private static void phases() {
        sentence("2 An EPOCH has PHASES: 0 REST (there is none under way), 1 COMMITTING, 2 OPENING, 3 TURNS");
        LeaderRows x = Scenes.with(3, 5);
        for (int epoch = 1; epoch <= 3; epoch++) {
            due("told(0) in rest", x.told(0), 0);
            due("told(1) in rest", x.told(1), epoch - 1);
            due("node(3, 5), there is none under way", x.node(3, 5), 0);
            x.begin();
            due("told(0) behind begin()", x.told(0), 1);
            x.opening();
            due("told(0) behind opening()", x.told(0), 2);
            x.draw(2);
            due("told(0) behind draw(2)", x.told(0), 3);
            x.turn(true);
            due("told(0) between turns", x.told(0), 3);
            due("told(1) in the epoch", x.told(1), epoch);
            x.turn(true);
        }
        due("told(0) behind the last turn", x.told(0), 0);
    }

    private static void membersAreThoseThatAreIn() {
        sentence("begin(): its MEMBERS are the nodes that are IN");
        LeaderRows x = Scenes.with(2, 1, 5, 1, 8, 1);
        x.weight(9, 1);
        x.deposit(10, 1);
        Scenes.withholdIn(x, 5);
        due("begin()", x.begin(), 2);
        for (int node = 0; node < 12; node++) {
            due("node(" + node + ", 5)", x.node(node, 5), node == 2 || node == 8 ? 1 : 0);
        }
    }

    private static void whoCommitsAndWhoOpens() {
        sentence("In PHASE 1 MEMBERS COMMIT, each once, to a DIGEST");
        LeaderRows x = Scenes.twelve(1);
        x.weight(7, 0);
        x.begin();
        int many = 0;
        for (int node = 11; node >= 0; node--) {
            many += node == 7 ? 0 : 1;
            due("commit(" + node + ", ..)", x.commit(node, x.digest(node, 60 + node)), node == 7 ? NOT : many);
            due("commit(" + node + ", 0) again", x.commit(node, 0), NOT);
        }
        x.opening();
        sentence("in PHASE 2 those that did OPEN, each once, the NUMBER that has it");
        many = 0;
        for (int node = 0; node < 12; node++) {
            due("open(" + node + ", another number)", x.open(node, 61 + node), NOT);
            many += node == 7 ? 0 : 1;
            due("open(" + node + ", ..)", x.open(node, 60 + node), node == 7 ? NOT : many);
            due("open(" + node + ", ..) again", x.open(node, 60 + node), NOT);
        }
        due("commit(7, 0) in phase 2", x.commit(7, 0), NOT);
    }

    private static void whatADrawDoes() {
        sentence("draw(): MEMBERS that COMMITTED and did not OPEN are WITHHOLDERS");
        LeaderRows x = inPhase(2);
        due("draw(6)", x.draw(6), 2);
        due("amount(5), withheld", x.amount(5), 900);
        due("amount(6), opened", x.amount(6), 1000);
        due("amount(8), did not commit", x.amount(8), 1000);
        sentence("THE ROW is made, of so many TURNS");
        due("told(2)", x.told(2), 6);
        for (int k = 0; k < 6; k++) {
            EXPECT.holds("turn " + k + " has a leader", x.leader(k) == 4 || x.leader(k) == 6);
        }
        due("leader(6)", x.leader(6), NONE);
        sentence("the leader of the next one does it");
        int led = x.node(x.leader(0), 2);
        x.turn(true);
        due("node(leader, 2)", x.node(x.leader(0), 2), led + 1);
        sentence("The SEED becomes MIX(SEED + EPOCH G); then, for each NUMBER that was OPENED, by nodes");
        BigInteger first = mix(new BigInteger("9E3779B97F4A7C15", 16));
        BigInteger then = mix(first.xor(wrap(digest(4, 40))).xor(wrap(40)));
        due("amount(0)", x.amount(0), then.longValue());
    }

    // ---- what is refused

    private static void badNotNone() {
        due("BAD", LeaderRows.BAD, BAD);
        due("NOT", LeaderRows.NOT, NOT);
        due("NONE", LeaderRows.NONE, NONE);
        LeaderRows x = inPhase(2);
        sentence("BAD: a number is none that there is");
        due("open(12, 30), no such node", x.open(12, 30), BAD);
        due("term(4, 1), no such term", x.term(4, 1), BAD);
        due("told(9)", x.told(9), BAD);
        due("node(3, 9)", x.node(3, 9), BAD);
        sentence("or outside what is told");
        due("weight(3, 1001)", x.weight(3, 1001), BAD);
        due("deposit(3, -1001)", x.deposit(3, -1001), BAD);
        due("term(2, 0)", x.term(2, 0), BAD);
        due("draw(61)", x.draw(61), BAD);
        due("would(3, 30, true, 0)", x.would(3, 30, true, 0), BAD);
        sentence("NOT: not in this PHASE, or as told");
        due("weight(3, 1000)", x.weight(3, 1000), NOT);
        due("deposit(3, -1000)", x.deposit(3, -1000), NOT);
        due("term(2, 1)", x.term(2, 1), NOT);
        due("begin()", x.begin(), NOT);
        due("opening()", x.opening(), NOT);
        due("turn(true)", x.turn(true), NOT);
        due("open(3, 31), as told", x.open(3, 31), NOT);
        due("open(4, 40), as told", x.open(4, 40), NOT);
        sentence("NONE: as told");
        due("leader(0)", x.leader(0), NONE);
        due("drawn(0)", x.drawn(0), NONE);
        due("check()", x.check(), NONE);
    }

    // ---- calls that go together

    private static void callsInRest() {
        sentence("Ahead of the calls `weight`, `deposit`, `term` the interface says: ---- in rest");
        for (int phase = 0; phase <= 3; phase++) {
            LeaderRows x = inPhase(phase);
            due("weight(3, 9) in phase " + phase, x.weight(3, 9), phase == 0 ? 5 : NOT);
            due("deposit(3, 9) in phase " + phase, x.deposit(3, 9), phase == 0 ? 1009 : NOT);
            due("term(1, 9) in phase " + phase, x.term(1, 9), phase == 0 ? 10 : NOT);
            due("told(0)", x.told(0), phase);
        }
    }

    private static void callsOfAnEpoch() {
        sentence("Ahead of the calls `begin`, `commit`, `opening`, `open`, `draw`, `turn` the interface says: ---- an epoch");
        for (int phase = 0; phase <= 3; phase++) {
            due("begin() in phase " + phase, inPhase(phase).begin(), phase == 0 ? 3 : NOT);
            due("commit(6, 1) in phase " + phase, inPhase(phase).commit(6, 1), phase == 1 ? 3 : NOT);
            due("opening() in phase " + phase, inPhase(phase).opening(), phase == 1 ? 2 : NOT);
            due("open(3, 30) in phase " + phase, inPhase(phase).open(3, 30), phase == 2 ? 2 : NOT);
            due("draw(8) in phase " + phase, inPhase(phase).draw(8), phase == 2 ? 2 : NOT);
            due("turn(true) in phase " + phase, inPhase(phase).turn(true), phase == 3 ? 5 : NOT);
        }
    }

    private static void callsOfTheLatestRow() {
        sentence("Ahead of the calls `leader`, `drawn`, `claim`, `check` the interface says: ---- the latest row");
        LeaderRows x = Scenes.with(3, 5);
        Scenes.drawWithout(x, 2);
        for (int call = 0; call < 12; call++) {
            due("leader(1) in phase " + x.told(0), x.leader(1), 3);
            due("drawn(1) in phase " + x.told(0), x.drawn(1), 1);
            due("claim(3) in phase " + x.told(0), x.claim(3), 1);
            due("claim(3) in phase " + x.told(0), x.claim(3), 2);
            due("check() in phase " + x.told(0), x.check(), NONE);
            due("claim(4) in phase " + x.told(0), x.claim(4), 1);
            due("check() in phase " + x.told(0), x.check(), 0);
            goOn(x);
        }
    }

    private static void goOn(LeaderRows x) {
        switch (x.told(0)) {
            case 0 -> x.begin();
            case 1 -> x.opening();
            case 2 -> x.draw(2);
            default -> x.turn(true);
        }
    }

    private static void callsOfWhatItWouldChange() {
        sentence("Ahead of the calls `would`, `choices` the interface says: ---- what it would change");
        for (int phase = 0; phase <= 3; phase++) {
            LeaderRows x = inPhase(phase);
            due("choices() in phase " + phase, x.choices(), phase == 2 ? 1 : 0);
            due("would(3, 30, false, 9) in phase " + phase, x.would(3, 30, false, 9), phase == 2 ? 0 : NOT);
            EXPECT.holds("would(3, 30, true, 60) in phase " + phase, phase == 2 ? x.would(3, 30, true, 60) > 0 : x.would(3, 30, true, 60) == NOT);
            EXPECT.holds("nothing changed in phase " + phase, Scenes.seen(x).equals(Scenes.seen(inPhase(phase))));
        }
    }

    private static void callsOfWhatIsTold() {
        sentence("Ahead of the calls `digest`, `node`, `amount`, `told` the interface says: ---- what is told");
        for (int phase = 0; phase <= 3; phase++) {
            LeaderRows x = inPhase(phase);
            List<Long> seen = Scenes.seen(x);
            due("digest(3, 30) in phase " + phase, x.digest(3, 30), digest(3, 30));
            due("node(6, 0) in phase " + phase, x.node(6, 0), 7);
            due("amount(8) in phase " + phase, x.amount(8), 1000);
            due("told(0) in phase " + phase, x.told(0), phase);
            EXPECT.holds("nothing changed in phase " + phase, Scenes.seen(x).equals(seen));
        }
    }
}
