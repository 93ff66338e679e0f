import java.math.BigInteger;

/** Promises 5 to 10, sentence by sentence, each bound from both sides. How the ROW is made stands in RowSentencesTest. */
public final class EpochSentencesTest {
    private static final int BAD = Scenes.BAD, NONE = Scenes.NONE, NOT = Scenes.NOT;
    private static final long MOST = Scenes.MOST_DEPOSIT;
    private static final long MIN = Long.MIN_VALUE, MAX = Long.MAX_VALUE;
    private static final Expect EXPECT = new Expect();

    public static void main(String[] args) {
        promise5HowManyMembers();
        promise5AWeightAndADepositAbove0();
        promise5AsideUpToAnEpochBeforeThisOne();
        promise5TheseAreInThen();
        promise5WeightsStayForThisEpoch();
        promise5EpochsAsTheyBegin();
        promise5NotInPhase0();
        promise6HowManyDidSoFar();
        promise6ToAnyDigest();
        promise6EachOnce();
        promise6NoMember();
        promise6NotInPhase1();
        promise7HowManyCommitted();
        promise7NotInPhase1();
        promise8HowManyDidSoFar();
        promise8TheNumberThatHasIt();
        promise8DidNotCommitOrDidOpen();
        promise8NotInPhase2();
        promise9SoManyTurns1To60();
        promise9BadInEachPhase();
        promise9HowManyElectors();
        promise9WithholdersAreThose();
        promise9HundredthsCutOff();
        promise9PotOfAll();
        promise9AsideUpToThisEpochAndAway();
        promise9TheSeedWraps();
        promise9OpenedByNodes();
        promise9NoElector();
        promise9NotInPhase2();
        promise10HowManyAreStillToCome();
        promise10TheNextIsDoneOrMissed();
        promise10InOrder();
        promise10LedOrMissed();
        promise10PatienceOfItsOwn();
        promise10OneBehindTheOther();
        promise10OrMore();
        promise10CountsAnew();
        promise10UpToThisEpochAndAway();
        promise10NotInPhase3();
        EXPECT.eachPromise(5, 10);
        EXPECT.finish();
    }

    private static void due(String call, long got, long want) {
        EXPECT.due(call, got, want);
    }

    // ---- 5

    private static void promise5HowManyMembers() {
        EXPECT.sentence("Promise 5", "An EPOCH begins: how many MEMBERS it has");
        for (int many = 0; many <= 12; many++) {
            LeaderRows x = new LeaderRows();
            for (int node = 0; node < many; node++) {
                x.weight(11 - node, 1);
                x.deposit(11 - node, 1);
            }
            due("begin() of " + many, x.begin(), many);
            due("told(0)", x.told(0), 1);
            for (int node = 0; node < 12; node++) {
                due("node(" + node + ", 5) of " + many, x.node(node, 5), node > 11 - many ? 1 : 0);
            }
        }
    }

    private static void promise5AWeightAndADepositAbove0() {
        EXPECT.sentence("Promise 5", "with a WEIGHT above 0 and a DEPOSIT above 0");
        int[] weights = {0, 0, 1, 1, 1000, 0};
        long[] deposits = {0, 1, 0, 1, MOST, MOST};
        for (int i = 0; i < weights.length; i++) {
            LeaderRows x = new LeaderRows();
            x.weight(5, weights[i]);
            x.deposit(5, deposits[i]);
            boolean member = weights[i] > 0 && deposits[i] > 0;
            due("begin() with " + weights[i] + " and " + deposits[i], x.begin(), member ? 1 : 0);
            due("node(5, 5)", x.node(5, 5), member ? 1 : 0);
            x.opening();
            due("draw(1)", x.draw(1), member ? 1 : 0);
        }
        LeaderRows x = Scenes.with(5, 1);
        x.weight(5, 0);
        due("begin(), its weight is taken back", x.begin(), 0);
        LeaderRows y = Scenes.with(5, 1);
        y.deposit(5, -1000);
        due("begin(), its deposit is taken back", y.begin(), 0);
    }

    private static void promise5AsideUpToAnEpochBeforeThisOne() {
        EXPECT.sentence("Promise 5", "or ASIDE up to an EPOCH before this one");
        for (int away : new int[] {1, 2, 3, 20}) {
            LeaderRows x = Scenes.with(3, 5, 8, 1);
            x.term(2, away);
            Scenes.withholdIn(x, 3);
            due("node(3, 4), away " + away, x.node(3, 4), 1 + away);
            for (int epoch = 2; epoch <= away; epoch++) {
                Scenes.passEpoch(x);
                due("leader(0) in epoch " + epoch, x.leader(0), 8);
            }
            due("begin() of the last epoch with it", x.begin(), 1);
            due("told(1)", x.told(1), 1 + away);
            due("node(3, 4)", x.node(3, 4), 1 + away);
            due("node(3, 5)", x.node(3, 5), 0);
            x.opening();
            x.draw(1);
            x.turn(true);
            due("node(3, 4) in rest behind it", x.node(3, 4), 1 + away);
            due("begin() of the first epoch behind it", x.begin(), 2);
            due("node(3, 4)", x.node(3, 4), 0);
            due("node(3, 5)", x.node(3, 5), 1);
        }
    }

    private static void promise5TheseAreInThen() {
        EXPECT.sentence("Promise 5", "(these are IN then)");
        LeaderRows x = Scenes.with(3, 5, 4, 5, 5, 5);
        x.term(2, 1);
        Scenes.withholdIn(x, 3, 4);
        Scenes.passEpoch(x);
        x.weight(4, 0);
        due("begin() of epoch 3", x.begin(), 2);
        due("node(3, 4)", x.node(3, 4), 0);
        due("node(4, 4), aside no more, without a weight", x.node(4, 4), 0);
        due("node(4, 5)", x.node(4, 5), 0);
        due("commit(3, 1)", x.commit(3, 1), 1);
        x.opening();
        x.draw(1);
        due("node(3, 4), withheld again", x.node(3, 4), 4);
    }

    private static void promise5WeightsStayForThisEpoch() {
        EXPECT.sentence("Promise 5", "their WEIGHTS stay as they are then, for this EPOCH");
        LeaderRows x = Scenes.with(3, 5, 8, 7);
        x.begin();
        due("weight(3, 1000) in phase 1", x.weight(3, 1000), NOT);
        x.opening();
        due("weight(3, 1000) in phase 2", x.weight(3, 1000), NOT);
        x.draw(2);
        due("weight(3, 1000) in phase 3", x.weight(3, 1000), NOT);
        due("told(4)", x.told(4), 12);
        x.turn(true);
        x.turn(true);
        due("weight(3, 1000) in rest", x.weight(3, 1000), 5);
        due("told(4), of the latest row", x.told(4), 12);
        Scenes.drawWithout(x, 1);
        due("told(4) of the next", x.told(4), 1007);
    }

    private static void promise5EpochsAsTheyBegin() {
        EXPECT.sentence("Promise 5", "EPOCHS are 1, 2, .. as they begin");
        LeaderRows x = new LeaderRows();
        for (int epoch = 1; epoch <= 50; epoch++) {
            due("told(1) ahead", x.told(1), epoch - 1);
            x.begin();
            due("told(1)", x.told(1), epoch);
            due("begin() again", x.begin(), NOT);
            due("told(1) behind a refused one", x.told(1), epoch);
            x.opening();
            x.draw(1);
            due("told(1) when it is over", x.told(1), epoch);
        }
    }

    private static void promise5NotInPhase0() {
        EXPECT.sentence("Promise 5", "NOT: not in PHASE 0");
        LeaderRows x = Scenes.with(3, 5);
        due("begin() in phase 0", x.begin(), 1);
        due("begin() in phase 1", x.begin(), NOT);
        x.commit(3, x.digest(3, 6));
        x.opening();
        due("begin() in phase 2", x.begin(), NOT);
        due("open(3, 6), its commit stays", x.open(3, 6), 1);
        x.draw(2);
        due("begin() in phase 3", x.begin(), NOT);
        x.turn(true);
        due("begin() ahead of the last turn", x.begin(), NOT);
        x.turn(true);
        due("begin() behind the last turn", x.begin(), 1);
    }

    // ---- 6

    private static void promise6HowManyDidSoFar() {
        EXPECT.sentence("Promise 6", "A node COMMITS: how many did so far");
        LeaderRows x = Scenes.twelve(1);
        for (int epoch = 1; epoch <= 2; epoch++) {
            x.term(2, 1);
            x.begin();
            for (int i = 0; i < 12; i++) {
                int node = i * 7 % 12;
                due("node(" + node + ", 6) ahead", x.node(node, 6), 0);
                due("commit(" + node + ")", x.commit(node, x.digest(node, i)), i + 1);
                due("node(" + node + ", 6)", x.node(node, 6), 1);
            }
            x.opening();
            for (int i = 0; i < 12; i++) {
                x.open(i * 7 % 12, i);
            }
            x.draw(1);
            x.turn(true);
        }
    }

    private static void promise6ToAnyDigest() {
        EXPECT.sentence("Promise 6", "COMMIT, each once, to a DIGEST");
        for (long digest : new long[] {0, 1, -1, MIN, MAX}) {
            LeaderRows x = Scenes.with(0, 1);
            x.begin();
            due("commit(0, " + digest + ")", x.commit(0, digest), 1);
            due("node(0, 6)", x.node(0, 6), 1);
            x.opening();
            due("open(0, " + digest + "), the digest is no number", x.open(0, digest), NOT);
        }
    }

    private static void promise6EachOnce() {
        EXPECT.sentence("Promise 6", "or it did");
        LeaderRows x = Scenes.with(0, 1, 1, 1);
        x.begin();
        due("commit(0)", x.commit(0, x.digest(0, 8)), 1);
        due("commit(0) to the same", x.commit(0, x.digest(0, 8)), NOT);
        due("commit(0) to another", x.commit(0, x.digest(0, 9)), NOT);
        due("commit(1)", x.commit(1, x.digest(1, 9)), 2);
        x.opening();
        due("open(0, 9), the refused one", x.open(0, 9), NOT);
        due("open(0, 8), the first one", x.open(0, 8), 1);
    }

    private static void promise6NoMember() {
        EXPECT.sentence("Promise 6", "no MEMBER");
        LeaderRows x = Scenes.with(3, 5, 4, 5, 5, 5, 6, 5);
        x.term(2, 1);
        Scenes.withholdIn(x, 3);
        x.weight(4, 0);
        x.deposit(5, -1000);
        due("begin()", x.begin(), 1);
        due("commit(3, 1), aside", x.commit(3, 1), NOT);
        due("commit(4, 1), without a weight", x.commit(4, 1), NOT);
        due("commit(5, 1), without a deposit", x.commit(5, 1), NOT);
        due("commit(0, 1), never there", x.commit(0, 1), NOT);
        due("commit(6, 1)", x.commit(6, 1), 1);
        due("node(3, 6)", x.node(3, 6), 0);
        due("opening()", x.opening(), 1);
        due("choices()", x.choices(), 1);
        EXPECT.sentence("Promise 6", "BAD");
        LeaderRows y = Scenes.twelve(1);
        y.begin();
        for (int node : Scenes.NO_NODES) {
            due("commit(" + node + ", 1)", y.commit(node, 1), BAD);
        }
        due("commit(0, 1)", y.commit(0, 1), 1);
        due("commit(11, 1)", y.commit(11, 1), 2);
    }

    private static void promise6NotInPhase1() {
        EXPECT.sentence("Promise 6", "NOT: not in PHASE 1");
        LeaderRows x = Scenes.with(3, 5);
        due("commit(3, 1) in phase 0", x.commit(3, 1), NOT);
        due("node(3, 6)", x.node(3, 6), 0);
        x.begin();
        x.opening();
        due("commit(3, 1) in phase 2", x.commit(3, 1), NOT);
        due("choices()", x.choices(), 0);
        x.draw(1);
        due("commit(3, 1) in phase 3", x.commit(3, 1), NOT);
        x.turn(true);
        due("commit(3, 1) in rest behind it", x.commit(3, 1), NOT);
        x.begin();
        due("commit(3, 1) in phase 1", x.commit(3, 1), 1);
    }

    // ---- 7

    private static void promise7HowManyCommitted() {
        EXPECT.sentence("Promise 7", "COMMITTING ends, OPENING begins: how many COMMITTED");
        for (int many = 0; many <= 12; many++) {
            LeaderRows x = Scenes.twelve(1);
            x.begin();
            for (int node = 0; node < many; node++) {
                x.commit(node, node);
            }
            due("told(0)", x.told(0), 1);
            due("opening() of " + many, x.opening(), many);
            due("told(0)", x.told(0), 2);
            due("commit(11, 0), it ended", x.commit(11, 0), NOT);
        }
        LeaderRows none = new LeaderRows();
        none.begin();
        due("opening() without members", none.opening(), 0);
        due("told(0)", none.told(0), 2);
    }

    private static void promise7NotInPhase1() {
        EXPECT.sentence("Promise 7", "NOT: not in PHASE 1");
        LeaderRows x = Scenes.with(3, 5);
        due("opening() in phase 0", x.opening(), NOT);
        due("told(0)", x.told(0), 0);
        x.begin();
        due("opening() in phase 1", x.opening(), 0);
        due("opening() in phase 2", x.opening(), NOT);
        due("told(0)", x.told(0), 2);
        x.draw(1);
        due("opening() in phase 3", x.opening(), NOT);
        due("told(0)", x.told(0), 3);
        x.turn(true);
        due("opening() in rest behind it", x.opening(), NOT);
        due("told(0)", x.told(0), 0);
    }

    // ---- 8

    private static void promise8HowManyDidSoFar() {
        EXPECT.sentence("Promise 8", "A node OPENS: how many did so far");
        LeaderRows x = Scenes.twelve(1);
        for (int epoch = 1; epoch <= 2; epoch++) {
            x.begin();
            for (int node = 0; node < 12; node++) {
                x.commit(node, x.digest(node, epoch));
            }
            x.opening();
            for (int i = 0; i < 12; i++) {
                int node = i * 5 % 12;
                due("node(" + node + ", 7) ahead", x.node(node, 7), 0);
                due("open(" + node + ", " + epoch + ")", x.open(node, epoch), i + 1);
                due("node(" + node + ", 7)", x.node(node, 7), 1);
            }
            due("draw(1)", x.draw(1), 12);
            x.turn(true);
        }
    }

    private static void promise8TheNumberThatHasIt() {
        EXPECT.sentence("Promise 8", "or its DIGEST is not that of this NUMBER");
        for (long number : new long[] {0, 1, -1, MIN, MAX}) {
            LeaderRows x = Scenes.with(0, 1, 11, 1);
            x.begin();
            x.commit(0, x.digest(0, number));
            x.commit(11, x.digest(0, number));
            x.opening();
            for (long other : new long[] {number + 1, number - 1, ~number, number ^ MIN, number ^ 1L << 32, x.digest(0, number)}) {
                due("open(0, " + other + ")", x.open(0, other), NOT);
            }
            due("node(0, 7)", x.node(0, 7), 0);
            due("open(11, " + number + "), another node's digest", x.open(11, number), NOT);
            due("open(0, " + number + ")", x.open(0, number), 1);
            due("node(0, 7)", x.node(0, 7), 1);
        }
    }

    private static void promise8DidNotCommitOrDidOpen() {
        EXPECT.sentence("Promise 8", "it did not COMMIT, did OPEN");
        LeaderRows x = Scenes.with(0, 1, 1, 1);
        x.begin();
        x.commit(0, x.digest(0, 6));
        x.opening();
        due("open(1, 0), a member that did not commit", x.open(1, 0), NOT);
        due("open(2, 0), no member", x.open(2, 0), NOT);
        due("open(0, 6)", x.open(0, 6), 1);
        due("open(0, 6) again", x.open(0, 6), NOT);
        due("open(0, 7) again", x.open(0, 7), NOT);
        due("node(1, 7)", x.node(1, 7), 0);
        EXPECT.sentence("Promise 8", "it did not COMMIT");
        LeaderRows y = Scenes.with(0, 1);
        y.begin();
        y.commit(0, y.digest(0, 6));
        y.opening();
        y.open(0, 6);
        y.draw(1);
        y.turn(true);
        y.begin();
        y.opening();
        due("open(0, 6), committed an epoch ago", y.open(0, 6), NOT);
        EXPECT.sentence("Promise 8", "BAD");
        for (int node : Scenes.NO_NODES) {
            due("open(" + node + ", 6)", y.open(node, 6), BAD);
        }
    }

    private static void promise8NotInPhase2() {
        EXPECT.sentence("Promise 8", "NOT: not in PHASE 2");
        LeaderRows x = Scenes.with(3, 5, 4, 5);
        due("open(3, 6) in phase 0", x.open(3, 6), NOT);
        x.begin();
        x.commit(3, x.digest(3, 6));
        due("open(3, 6) in phase 1", x.open(3, 6), NOT);
        due("node(3, 7)", x.node(3, 7), 0);
        x.opening();
        x.draw(1);
        due("open(3, 6) in phase 3, too late", x.open(3, 6), NOT);
        due("node(3, 7)", x.node(3, 7), 0);
        x.turn(true);
        due("open(3, 6) in rest behind it", x.open(3, 6), NOT);
    }

    // ---- 9

    private static void promise9SoManyTurns1To60() {
        EXPECT.sentence("Promise 9", "THE ROW of so many TURNS (1 .. 60)");
        for (int turns : new int[] {1, 2, 59, 60}) {
            LeaderRows x = Scenes.with(3, 5, 4, 5);
            x.begin();
            x.opening();
            for (int bad : new int[] {0, -1, 61, -60, Integer.MIN_VALUE, Integer.MAX_VALUE}) {
                due("draw(" + bad + ")", x.draw(bad), BAD);
            }
            due("told(0)", x.told(0), 2);
            due("amount(0)", x.amount(0), 0);
            due("draw(" + turns + ")", x.draw(turns), 2);
            due("told(2)", x.told(2), turns);
            due("told(0)", x.told(0), 3);
            EXPECT.holds("its last turn has a leader", x.leader(turns - 1) == 3 || x.leader(turns - 1) == 4);
            due("leader(" + turns + ")", x.leader(turns), NONE);
        }
    }

    private static void promise9BadInEachPhase() {
        EXPECT.sentence("Promise 9", "BAD");
        LeaderRows x = Scenes.with(3, 5);
        for (int phase = 0; phase <= 3; phase++) {
            due("told(0)", x.told(0), phase);
            due("draw(0) in phase " + phase, x.draw(0), BAD);
            due("draw(61) in phase " + phase, x.draw(61), BAD);
            due("told(0) behind it", x.told(0), phase);
            if (phase == 0) {
                x.begin();
            } else if (phase == 1) {
                x.opening();
            } else {
                x.draw(1);
            }
        }
    }

    private static void promise9HowManyElectors() {
        for (int withhold = 0; withhold <= 12; withhold++) {
            EXPECT.sentence("Promise 9", "how many ELECTORS");
            LeaderRows x = Scenes.twelve(1000);
            x.begin();
            for (int node = 0; node < withhold; node++) {
                x.commit(node, 0);
            }
            x.opening();
            due("draw(5), " + withhold + " withhold", x.draw(5), 12 - withhold);
            EXPECT.sentence("Promise 9", "W is the sum of their WEIGHTS");
            due("told(4)", x.told(4), 1000 * (12 - withhold));
            due("told(2)", x.told(2), withhold == 12 ? 0 : 5);
            due("told(0)", x.told(0), withhold == 12 ? 0 : 3);
        }
    }

    private static void promise9WithholdersAreThose() {
        EXPECT.sentence("Promise 9", "MEMBERS that COMMITTED and did not OPEN are WITHHOLDERS");
        LeaderRows x = Scenes.with(0, 1, 1, 2, 2, 4);
        x.begin();
        x.commit(0, x.digest(0, 5));
        x.commit(1, x.digest(1, 5));
        x.opening();
        x.open(0, 5);
        due("draw(9)", x.draw(9), 2);
        due("amount(2), opened", x.amount(2), 1000);
        due("amount(3), withheld", x.amount(3), 900);
        due("amount(4), did not commit", x.amount(4), 1000);
        due("amount(5), no member", x.amount(5), 0);
        due("amount(1)", x.amount(1), 100);
        due("node(0, 4), opened", x.node(0, 4), 0);
        due("node(1, 4), withheld", x.node(1, 4), 3);
        due("node(2, 4), did not commit", x.node(2, 4), 0);
        EXPECT.sentence("Promise 9", "ELECTORS are the other MEMBERS (also those that did not COMMIT)");
        due("told(4)", x.told(4), 5);
        for (int k = 0; k < 9; k++) {
            EXPECT.holds("no withholder leads", x.leader(k) == 0 || x.leader(k) == 2);
        }
    }

    private static void promise9HundredthsCutOff() {
        EXPECT.sentence("Promise 9", "PENALTY hundredths of the DEPOSIT (cut off) go to the POT");
        for (int penalty : new int[] {0, 1, 10, 33, 50, 99, 100}) {
            for (long deposit : new long[] {1, 2, 3, 9, 10, 11, 99, 100, 101, 199, MOST - 1, MOST}) {
                LeaderRows x = new LeaderRows();
                x.weight(6, 1);
                x.deposit(6, deposit);
                x.term(1, penalty);
                Scenes.withholdIn(x, 6);
                long lost = BigInteger.valueOf(deposit).multiply(BigInteger.valueOf(penalty)).divide(BigInteger.valueOf(100)).longValueExact();
                due("amount(1), " + penalty + " of " + deposit, x.amount(1), lost);
                due("amount(8), " + penalty + " of " + deposit, x.amount(8), deposit - lost);
                due("node(6, 4)", x.node(6, 4), 3);
            }
        }
    }

    private static void promise9PotOfAll() {
        EXPECT.sentence("Promise 9", "go to the POT");
        LeaderRows x = new LeaderRows();
        x.term(1, 100);
        x.term(2, 1);
        for (int node = 0; node < 12; node++) {
            x.weight(node, 1);
        }
        for (int time = 1; time <= 3; time++) {
            x.begin();
            x.opening();
            x.draw(1);
            for (int node = 0; node < 12; node++) {
                due("deposit(" + node + ", 10^12)", x.deposit(node, MOST), MOST);
            }
            x.begin();
            for (int node = 0; node < 12; node++) {
                x.commit(node, 0);
            }
            x.opening();
            due("draw(1)", x.draw(1), 0);
            due("amount(1)", x.amount(1), 12 * MOST * time);
            due("amount(13)", x.amount(13), 0);
        }
    }

    private static void promise9AsideUpToThisEpochAndAway() {
        EXPECT.sentence("Promise 9", "they are ASIDE up to this EPOCH and AWAY");
        for (int away : new int[] {1, 2, 19, 20}) {
            for (int ahead = 0; ahead <= 3; ahead++) {
                LeaderRows x = Scenes.with(6, 1, 7, 1);
                x.term(2, away);
                for (int epoch = 1; epoch <= ahead; epoch++) {
                    Scenes.passEpoch(x);
                }
                Scenes.withholdIn(x, 6);
                due("node(6, 4), away " + away + " from epoch " + (ahead + 1), x.node(6, 4), ahead + 1 + away);
                x.term(2, 5);
                due("node(6, 4), another term later", x.node(6, 4), ahead + 1 + away);
            }
        }
    }

    private static void promise9TheSeedWraps() {
        EXPECT.sentence("Promise 9", "The SEED becomes MIX(SEED + EPOCH G)");
        long[] seeds = {-2152535657050944081L, -5511663747979980962L, 8400972143974238905L, -8464824030585761673L};
        LeaderRows x = new LeaderRows();
        for (int epoch = 1; epoch <= 4; epoch++) {
            Scenes.drawWithout(x, 60);
            due("amount(0) behind epoch " + epoch, x.amount(0), seeds[epoch - 1]);
        }
        LeaderRows y = Scenes.with(0, 1000, 11, 1000);
        for (int epoch = 1; epoch <= 4; epoch++) {
            due("amount(0) ahead of the draw", y.amount(0), epoch == 1 ? 0 : seeds[epoch - 2]);
            Scenes.passEpoch(y);
            due("amount(0) with members, behind epoch " + epoch, y.amount(0), seeds[epoch - 1]);
        }
    }

    private static void promise9OpenedByNodes() {
        EXPECT.sentence("Promise 9", "for each NUMBER that was OPENED, by nodes: MIX(SEED ^ DIGEST of the NUMBER ^ NUMBER)");
        due("amount(0), opened 0, 11", seedOf(0, 11), -6156584342628236642L);
        due("amount(0), opened 11, 0", seedOf(11, 0), -6156584342628236642L);
        due("amount(0), opened 0 alone", seedOf(0), -7798725181006589993L);
        due("amount(0), opened none", seedOf(), -2152535657050944081L);
    }

    /** Nodes 0 and 11 COMMIT to the least long and to -1; these OPEN, in this order. */
    private static long seedOf(int... openers) {
        LeaderRows x = Scenes.with(0, 1, 5, 1, 11, 1);
        x.begin();
        x.commit(11, x.digest(11, -1));
        x.commit(0, x.digest(0, MIN));
        x.opening();
        for (int node : openers) {
            x.open(node, node == 0 ? MIN : -1);
        }
        due("choices()", x.choices(), 2 - openers.length);
        due("draw(3)", x.draw(3), 1 + openers.length);
        return x.amount(0);
    }

    private static void promise9NoElector() {
        EXPECT.sentence("Promise 9", "if there is no ELECTOR, it is empty, and the EPOCH is over");
        LeaderRows none = new LeaderRows();
        dueEmpty("without members", none, Scenes.drawWithout(none, 60));
        LeaderRows withheld = Scenes.with(3, 5);
        Scenes.passEpoch(withheld);
        due("leader(0), the row ahead", withheld.leader(0), 3);
        withheld.begin();
        withheld.commit(3, 0);
        withheld.opening();
        dueEmpty("all withhold", withheld, withheld.draw(60));
        due("node(3, 1), its wait stays", withheld.node(3, 1), 0);
        due("amount(1)", withheld.amount(1), 100);
        due("node(3, 4)", withheld.node(3, 4), 4);
        due("begin() of the next", withheld.begin(), 0);
        LeaderRows one = Scenes.with(3, 5);
        one.begin();
        one.opening();
        due("draw(60) with one elector", one.draw(60), 1);
        due("told(0)", one.told(0), 3);
        due("told(2)", one.told(2), 60);
        due("leader(59)", one.leader(59), 3);
    }

    private static void dueEmpty(String how, LeaderRows x, int drawn) {
        due(how + ": draw(60)", drawn, 0);
        int[] told = {0, x.told(1), 0, 0, 0, 3, 10, 2, 3};
        for (int what = 0; what <= 8; what++) {
            due(how + ": told(" + what + ")", x.told(what), told[what]);
        }
        due(how + ": leader(0)", x.leader(0), NONE);
        due(how + ": drawn(0)", x.drawn(0), NONE);
        due(how + ": turn(true)", x.turn(true), NOT);
        due(how + ": check() of an empty claim", x.check(), NONE);
        for (int node = 0; node < 12; node++) {
            for (int what = 5; what <= 7; what++) {
                due(how + ": node(" + node + ", " + what + ")", x.node(node, what), 0);
            }
        }
    }

    private static void promise9NotInPhase2() {
        EXPECT.sentence("Promise 9", "NOT: not in PHASE 2");
        LeaderRows x = Scenes.with(3, 5);
        due("draw(1) in phase 0", x.draw(1), NOT);
        x.begin();
        due("draw(60) in phase 1", x.draw(60), NOT);
        due("amount(0)", x.amount(0), 0);
        x.opening();
        due("draw(2) in phase 2", x.draw(2), 1);
        due("draw(3) in phase 3", x.draw(3), NOT);
        due("told(2)", x.told(2), 2);
        x.turn(true);
        x.turn(true);
        due("draw(3) in rest behind it", x.draw(3), NOT);
        due("told(2)", x.told(2), 2);
    }

    // ---- 10

    private static void promise10HowManyAreStillToCome() {
        EXPECT.sentence("Promise 10", "how many are still to come (0: the EPOCH is over)");
        for (int turns : new int[] {1, 2, 60}) {
            LeaderRows x = Scenes.with(3, 5, 4, 5);
            x.term(3, 20);
            Scenes.drawWithout(x, turns);
            for (int k = 0; k < turns; k++) {
                due("told(0) ahead of turn " + k, x.told(0), 3);
                due("told(3) ahead of turn " + k, x.told(3), k);
                due("turn of " + turns, x.turn(k % 3 != 0), turns - 1 - k);
            }
            due("told(0) behind the last turn", x.told(0), 0);
            due("told(3) behind the last turn", x.told(3), 0);
            due("told(2) behind the last turn", x.told(2), turns);
            due("turn(true) behind the last turn", x.turn(true), NOT);
            due("begin()", x.begin(), 2);
        }
        EXPECT.sentence("Promise 10", "Behind the last TURN the EPOCH is over");
        for (boolean done : new boolean[] {true, false}) {
            LeaderRows x = Scenes.with(3, 5);
            Scenes.drawWithout(x, 1);
            due("turn(" + done + ")", x.turn(done), 0);
            due("told(0)", x.told(0), 0);
            due("node(3, 5)", x.node(3, 5), 0);
        }
    }

    private static void promise10TheNextIsDoneOrMissed() {
        EXPECT.sentence("Promise 10", "The next TURN is done or missed");
        for (int dones = 0; dones < 8; dones++) {
            LeaderRows x = Scenes.with(3, 5);
            Scenes.drawWithout(x, 3);
            for (int k = 0; k < 3; k++) {
                due("told(3)", x.told(3), k);
                x.turn((dones >> k & 1) == 1);
            }
            due("node(3, 2), " + dones, x.node(3, 2), Integer.bitCount(dones));
            due("node(3, 3), " + dones, x.node(3, 3), 3 - Integer.bitCount(dones));
        }
    }

    private static void promise10InOrder() {
        EXPECT.sentence("Promise 10", "TURNS are gone through in order");
        LeaderRows x = Scenes.with(2, 3, 6, 2, 9, 4);
        x.term(3, 20);
        Scenes.drawWithout(x, 30);
        int[] led = new int[12];
        int[] missed = new int[12];
        for (int k = 0; k < 30; k++) {
            boolean done = k % 4 != 1;
            int who = x.leader(k);
            led[who] += done ? 1 : 0;
            missed[who] += done ? 0 : 1;
            x.turn(done);
            for (int node : new int[] {2, 6, 9}) {
                due("node(" + node + ", 2) behind turn " + k, x.node(node, 2), led[node]);
                due("node(" + node + ", 3) behind turn " + k, x.node(node, 3), missed[node]);
            }
        }
    }

    private static void promise10LedOrMissed() {
        EXPECT.sentence("Promise 10", "does it (it LED one more), or misses it (it MISSED one more;");
        LeaderRows x = Scenes.with(2, 3);
        Scenes.drawWithout(x, 3);
        due("node(2, 2), a row alone", x.node(2, 2), 0);
        x.turn(true);
        due("node(2, 2)", x.node(2, 2), 1);
        due("node(2, 3)", x.node(2, 3), 0);
        x.turn(false);
        due("node(2, 2)", x.node(2, 2), 1);
        due("node(2, 3)", x.node(2, 3), 1);
        x.turn(true);
        due("node(2, 2)", x.node(2, 2), 2);
        due("node(2, 3)", x.node(2, 3), 1);
        Scenes.passEpoch(x);
        due("node(2, 2), over epochs", x.node(2, 2), 3);
    }

    /** Node 3 alone misses so many TURNS of one EPOCH. */
    private static void miss(LeaderRows x, int turns) {
        Scenes.drawWithout(x, turns);
        for (int k = 0; k < turns; k++) {
            x.turn(false);
        }
    }

    private static void promise10PatienceOfItsOwn() {
        EXPECT.sentence("Promise 10", "when it has missed PATIENCE of its own or more");
        for (int patience : new int[] {1, 2, 3, 19, 20}) {
            LeaderRows x = Scenes.with(3, 5);
            x.term(3, patience);
            Scenes.drawWithout(x, patience + 1);
            for (int k = 1; k < patience; k++) {
                x.turn(false);
                due("node(3, 4), missed " + k + " of " + patience, x.node(3, 4), 0);
                due("node(3, 8)", x.node(3, 8), k);
            }
            x.turn(false);
            due("node(3, 4), missed all " + patience, x.node(3, 4), 3);
            due("node(3, 8)", x.node(3, 8), 0);
            due("node(3, 3)", x.node(3, 3), patience);
            due("node(3, 5), still a member", x.node(3, 5), 1);
            due("turn(true), still its turn", x.turn(true), 0);
            due("node(3, 2)", x.node(3, 2), 1);
        }
        EXPECT.sentence("Promise 10", "of its own");
        LeaderRows x = Scenes.with(3, 1, 4, 1);
        x.term(0, 1);
        x.term(3, 2);
        Scenes.drawWithout(x, 2);
        if (x.leader(0) != x.leader(1)) {
            x.turn(false);
            x.turn(false);
            due("node(3, 4), one missed each", x.node(3, 4), 0);
            due("node(4, 4), one missed each", x.node(4, 4), 0);
            due("node(3, 8)", x.node(3, 8), 1);
            due("node(4, 8)", x.node(4, 8), 1);
        } else {
            EXPECT.holds("two lead", false);
        }
    }

    private static void promise10OneBehindTheOther() {
        EXPECT.sentence("Promise 10", "one behind the other, also over EPOCHS");
        LeaderRows x = Scenes.with(3, 5);
        Scenes.drawWithout(x, 6);
        boolean[] done = {false, false, true, false, false, true};
        int[] behind = {1, 2, 0, 1, 2, 0};
        for (int k = 0; k < 6; k++) {
            x.turn(done[k]);
            due("node(3, 8) behind turn " + k, x.node(3, 8), behind[k]);
            due("node(3, 4) behind turn " + k, x.node(3, 4), 0);
        }
        due("node(3, 3)", x.node(3, 3), 4);
        miss(x, 1);
        due("node(3, 8), one in epoch 2", x.node(3, 8), 1);
        miss(x, 1);
        due("node(3, 8), one in epoch 3", x.node(3, 8), 2);
        due("node(3, 4)", x.node(3, 4), 0);
        miss(x, 1);
        due("node(3, 8), one in epoch 4", x.node(3, 8), 0);
        due("node(3, 4)", x.node(3, 4), 6);
        EXPECT.sentence("Promise 10", "how many of its own TURNS it missed one behind the other");
        LeaderRows y = Scenes.with(3, 1, 4, 1);
        y.term(3, 20);
        Scenes.drawWithout(y, 60);
        int own = 0;
        boolean between = false;
        for (int k = 0; k < 60 && own < 19; k++) {
            boolean its = y.leader(k) == 3;
            own += its ? 1 : 0;
            between |= !its && own > 0;
            y.turn(!its);
            due("node(3, 8) behind turn " + k, y.node(3, 8), own);
            due("node(4, 8) behind turn " + k, y.node(4, 8), 0);
        }
        EXPECT.holds("another led between", between);
    }

    private static void promise10OrMore() {
        EXPECT.sentence("Promise 10", "or more, one behind the other");
        LeaderRows x = Scenes.with(3, 5);
        x.term(3, 20);
        miss(x, 5);
        due("node(3, 8)", x.node(3, 8), 5);
        due("term(3, 2)", x.term(3, 2), 20);
        due("node(3, 4), a term puts nobody aside", x.node(3, 4), 0);
        due("begin()", x.begin(), 1);
        x.opening();
        x.draw(2);
        x.turn(false);
        due("node(3, 4), six are more than two", x.node(3, 4), 4);
        due("node(3, 8)", x.node(3, 8), 0);
        LeaderRows y = Scenes.with(3, 5);
        y.term(3, 20);
        miss(y, 5);
        y.term(3, 2);
        Scenes.passEpoch(y);
        due("node(3, 8), a turn that is done", y.node(3, 8), 0);
        due("node(3, 4), a turn that is done", y.node(3, 4), 0);
        LeaderRows z = Scenes.with(3, 5);
        miss(z, 2);
        z.term(3, 4);
        miss(z, 1);
        due("node(3, 4), the term is 4 now", z.node(3, 4), 0);
        due("node(3, 8), the term is 4 now", z.node(3, 8), 3);
        miss(z, 1);
        due("node(3, 4), four", z.node(3, 4), 5);
    }

    private static void promise10CountsAnew() {
        EXPECT.sentence("Promise 10", "and begins to count anew");
        LeaderRows x = Scenes.with(3, 5);
        x.term(3, 2);
        Scenes.drawWithout(x, 5);
        int[] behind = {1, 0, 1, 0, 1};
        int[] aside = {0, 3, 3, 3, 3};
        for (int k = 0; k < 5; k++) {
            x.turn(false);
            due("node(3, 8) behind turn " + k, x.node(3, 8), behind[k]);
            due("node(3, 4) behind turn " + k, x.node(3, 4), aside[k]);
        }
        due("node(3, 3)", x.node(3, 3), 5);
        Scenes.passEpoch(x);
        Scenes.passEpoch(x);
        due("node(3, 8), kept while aside", x.node(3, 8), 1);
        miss(x, 1);
        due("node(3, 4), the second one", x.node(3, 4), 6);
    }

    private static void promise10UpToThisEpochAndAway() {
        EXPECT.sentence("Promise 10", "it is ASIDE up to this EPOCH and AWAY, as long as it was not up to a later one");
        for (int away : new int[] {1, 2, 20}) {
            LeaderRows x = Scenes.with(3, 5, 4, 5);
            x.term(2, away);
            x.term(3, 1);
            Scenes.passEpoch(x);
            Scenes.drawWithout(x, 2);
            int who = x.leader(0);
            x.turn(false);
            due("node(who, 4), away " + away, x.node(who, 4), 2 + away);
            x.turn(true);
            for (int epoch = 3; epoch <= 2 + away; epoch++) {
                due("begin() of epoch " + epoch, x.begin(), 1);
                due("node(who, 5) in epoch " + epoch, x.node(who, 5), 0);
                x.opening();
                x.draw(1);
                x.turn(true);
            }
            due("begin() behind it", x.begin(), 2);
            due("node(who, 4) behind it", x.node(who, 4), 0);
        }
        LeaderRows twice = Scenes.with(3, 5);
        twice.term(3, 1);
        miss(twice, 4);
        due("node(3, 4), four times in one epoch", twice.node(3, 4), 3);
        due("amount(5), it costs nothing", twice.amount(5), 1000);
        due("amount(1), it costs nothing", twice.amount(1), 0);
    }

    private static void promise10NotInPhase3() {
        EXPECT.sentence("Promise 10", "NOT: not in PHASE 3");
        LeaderRows x = Scenes.with(3, 5);
        for (int phase = 0; phase <= 2; phase++) {
            due("turn(true) in phase " + phase, x.turn(true), NOT);
            due("turn(false) in phase " + phase, x.turn(false), NOT);
            if (phase == 0) {
                x.begin();
            } else {
                x.opening();
            }
        }
        x.draw(1);
        due("turn(true) in phase 3", x.turn(true), 0);
        due("turn(true) in rest behind it", x.turn(true), NOT);
        due("turn(false) in rest behind it", x.turn(false), NOT);
        due("node(3, 2)", x.node(3, 2), 1);
        due("node(3, 3)", x.node(3, 3), 0);
    }
}
