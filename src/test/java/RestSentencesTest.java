import java.math.BigInteger;

/** Promises 1 to 4, sentence by sentence: what is there at first, and each bound from both sides. */
public final class RestSentencesTest {
    private static final int BAD = Scenes.BAD, NONE = Scenes.NONE, NOT = Scenes.NOT;
    private static final long MOST = Scenes.MOST_DEPOSIT;
    private static final Expect EXPECT = new Expect();

    public static void main(String[] args) {
        promise1PhaseIs0();
        promise1NobodyHasAWeight();
        promise1AllAre0AtFirst();
        promise1TermsAtFirst();
        promise1ThereWasNoRow();
        promise2WeightsAre0To1000();
        promise2NodesAre0To11();
        promise2BadInEachPhase();
        promise2WhichItHad();
        promise2NotInPhase0();
        promise3DepositsAre0To10Power12();
        promise3MoreThanALongHolds();
        promise3WhatItIs();
        promise3NodesAre0To11();
        promise3NotInPhase0();
        promise4EachTermHasItsBounds();
        promise4TermsAre0To3();
        promise4BadInEachPhase();
        promise4WhichItWas();
        promise4NotInPhase0();
        EXPECT.eachPromise(1, 4);
        EXPECT.finish();
    }

    private static void due(String call, long got, long want) {
        EXPECT.due(call, got, want);
    }

    private static LeaderRows inPhase(int phase) {
        LeaderRows x = Scenes.with(3, 5, 6, 7);
        if (phase >= 1) {
            x.begin();
        }
        if (phase >= 2) {
            x.opening();
        }
        if (phase >= 3) {
            x.draw(2);
        }
        due("told(0)", x.told(0), phase);
        return x;
    }

    // ---- 1

    private static void promise1PhaseIs0() {
        EXPECT.sentence("Promise 1", "PHASE 0");
        LeaderRows x = new LeaderRows();
        due("told(0)", x.told(0), 0);
        due("opening()", x.opening(), NOT);
        due("draw(1)", x.draw(1), NOT);
        due("turn(true)", x.turn(true), NOT);
        due("weight(0, 1)", x.weight(0, 1), 0);
    }

    private static void promise1NobodyHasAWeight() {
        EXPECT.sentence("Promise 1", "nobody has a WEIGHT");
        LeaderRows x = new LeaderRows();
        for (int node = 0; node < 12; node++) {
            due("node(" + node + ", 0)", x.node(node, 0), 0);
            x.deposit(node, 1);
        }
        due("begin() with deposits alone", x.begin(), 0);
    }

    private static void promise1AllAre0AtFirst() {
        EXPECT.sentence("Promise 1", "all 0 at first. A node is IN (at first)");
        LeaderRows x = new LeaderRows();
        for (int node = 0; node < 12; node++) {
            for (int what = 0; what <= 8; what++) {
                due("node(" + node + ", " + what + ")", x.node(node, what), 0);
            }
            due("amount(" + (2 + node) + ")", x.amount(2 + node), 0);
        }
        EXPECT.sentence("Promise 1", "There is a POT (0 at first), a SEED (a long, 0 at first)");
        due("amount(0)", x.amount(0), 0);
        due("amount(1)", x.amount(1), 0);
        EXPECT.sentence("Promise 1", "EPOCHS are 1, 2, .. as they begin");
        due("told(1)", x.told(1), 0);
        x.begin();
        due("told(1)", x.told(1), 1);
    }

    private static void promise1TermsAtFirst() {
        EXPECT.sentence("Promise 1", "0 FACTOR 0 .. 100 (3 at first), 1 PENALTY 0 .. 100 (10), 2 AWAY 1 .. 20 (2), 3 PATIENCE 1 .. 20 (3)");
        LeaderRows x = new LeaderRows();
        int[] first = {3, 10, 2, 3};
        for (int what = 0; what < 4; what++) {
            due("told(" + (5 + what) + ")", x.told(5 + what), first[what]);
            due("term(" + what + ", 1)", x.term(what, 1), first[what]);
        }
    }

    private static void promise1ThereWasNoRow() {
        EXPECT.sentence("Promise 1", "there was none");
        LeaderRows x = new LeaderRows();
        due("told(2)", x.told(2), 0);
        due("told(3)", x.told(3), 0);
        due("told(4)", x.told(4), 0);
        due("leader(0)", x.leader(0), NONE);
        due("drawn(0)", x.drawn(0), NONE);
        due("check()", x.check(), NONE);
        due("claim(0)", x.claim(0), 1);
        due("choices()", x.choices(), 0);
        EXPECT.sentence("Promise 1", "A new object");
        LeaderRows other = Scenes.with(3, 5);
        other.term(0, 7);
        other.claim(3);
        Scenes.passEpoch(other);
        due("node(3, 0)", x.node(3, 0), 0);
        due("told(5)", x.told(5), 3);
        due("told(1)", x.told(1), 0);
        due("amount(0)", x.amount(0), 0);
        due("claim(0)", x.claim(0), 2);
        due("leader(0)", x.leader(0), NONE);
    }

    // ---- 2

    private static void promise2WeightsAre0To1000() {
        EXPECT.sentence("Promise 2", "a WEIGHT (0 .. 1000)");
        LeaderRows x = new LeaderRows();
        int had = 0;
        for (int w : new int[] {1000, 0, 1, 999, 1000}) {
            due("weight(4, " + w + ")", x.weight(4, w), had);
            due("node(4, 0)", x.node(4, 0), w);
            had = w;
            for (int bad : new int[] {-1, 1001, -1000, 2000, Integer.MIN_VALUE, Integer.MAX_VALUE}) {
                due("weight(4, " + bad + ")", x.weight(4, bad), BAD);
                due("node(4, 0) behind it", x.node(4, 0), w);
            }
        }
    }

    private static void promise2NodesAre0To11() {
        EXPECT.sentence("Promise 2", "NODES 0 ..");
        LeaderRows x = new LeaderRows();
        for (int node = 0; node < 12; node++) {
            due("weight(" + node + ", ..)", x.weight(node, 100 + node), 0);
        }
        for (int node : Scenes.NO_NODES) {
            due("weight(" + node + ", 1)", x.weight(node, 1), BAD);
        }
        for (int node = 0; node < 12; node++) {
            due("node(" + node + ", 0)", x.node(node, 0), 100 + node);
        }
    }

    private static void promise2BadInEachPhase() {
        EXPECT.sentence("Promise 2", "BAD");
        for (int phase = 0; phase <= 3; phase++) {
            LeaderRows x = inPhase(phase);
            due("weight(12, 5) in phase " + phase, x.weight(12, 5), BAD);
            due("weight(-1, 5) in phase " + phase, x.weight(-1, 5), BAD);
            due("weight(3, 1001) in phase " + phase, x.weight(3, 1001), BAD);
            due("weight(3, -1) in phase " + phase, x.weight(3, -1), BAD);
            due("node(3, 0)", x.node(3, 0), 5);
        }
    }

    private static void promise2WhichItHad() {
        EXPECT.sentence("Promise 2", "A node's WEIGHT becomes w: which it had");
        LeaderRows x = new LeaderRows();
        due("weight(0, 5)", x.weight(0, 5), 0);
        due("weight(0, 5) again", x.weight(0, 5), 5);
        due("weight(0, 6)", x.weight(0, 6), 5);
        due("weight(1, 7)", x.weight(1, 7), 0);
        due("weight(0, 0)", x.weight(0, 0), 6);
    }

    private static void promise2NotInPhase0() {
        EXPECT.sentence("Promise 2", "NOT: not in PHASE 0");
        due("weight(3, 6) in phase 0", inPhase(0).weight(3, 6), 5);
        for (int phase = 1; phase <= 3; phase++) {
            LeaderRows x = inPhase(phase);
            due("weight(3, 6) of a member in phase " + phase, x.weight(3, 6), NOT);
            due("weight(0, 6) of none in phase " + phase, x.weight(0, 6), NOT);
            due("node(3, 0)", x.node(3, 0), 5);
            due("node(0, 0)", x.node(0, 0), 0);
        }
        LeaderRows x = inPhase(3);
        x.turn(true);
        due("weight(3, 6) ahead of the last turn", x.weight(3, 6), NOT);
        x.turn(true);
        due("weight(3, 6) behind the last turn", x.weight(3, 6), 5);
    }

    // ---- 3

    private static void promise3DepositsAre0To10Power12() {
        EXPECT.sentence("Promise 3", "or it would be below 0 or above 10^12");
        for (long held : new long[] {0, 1, 500, MOST - 1, MOST}) {
            dueDeposit(held, -held, 0);
            dueDeposit(held, -held - 1, BAD);
            dueDeposit(held, MOST - held, MOST);
            dueDeposit(held, MOST - held + 1, BAD);
            dueDeposit(held, 0, held);
        }
    }

    private static void promise3MoreThanALongHolds() {
        EXPECT.sentence("Promise 3", "a DEPOSIT (0 .. 10^12)");
        long[] far = {Long.MAX_VALUE, Long.MAX_VALUE - 1, Long.MAX_VALUE - MOST, Long.MAX_VALUE - MOST + 1, Long.MIN_VALUE,
            Long.MIN_VALUE + 1, Long.MIN_VALUE + MOST, 1L << 32, -(1L << 32), (1L << 32) + 1, 1L << 62};
        for (long held : new long[] {0, 1, MOST - 1, MOST}) {
            for (long more : far) {
                BigInteger then = BigInteger.valueOf(held).add(BigInteger.valueOf(more));
                boolean fits = then.signum() >= 0 && then.compareTo(BigInteger.valueOf(MOST)) <= 0;
                dueDeposit(held, more, fits ? held + more : BAD);
            }
        }
    }

    private static void dueDeposit(long held, long more, long answer) {
        LeaderRows x = new LeaderRows();
        due("deposit(9, " + held + ")", x.deposit(9, held), held);
        due("deposit(9, " + more + ") onto " + held, x.deposit(9, more), answer);
        due("amount(11)", x.amount(11), answer == BAD ? held : answer);
        due("amount(10), another node's", x.amount(10), 0);
    }

    private static void promise3WhatItIs() {
        EXPECT.sentence("Promise 3", "A node's DEPOSIT gets so much more, or less (below 0): what it is");
        LeaderRows x = new LeaderRows();
        due("deposit(2, 70)", x.deposit(2, 70), 70);
        due("deposit(2, 70)", x.deposit(2, 70), 140);
        due("deposit(2, -141)", x.deposit(2, -141), BAD);
        due("deposit(2, -140)", x.deposit(2, -140), 0);
        due("deposit(2, -1)", x.deposit(2, -1), BAD);
        due("deposit(2, 1)", x.deposit(2, 1), 1);
    }

    private static void promise3NodesAre0To11() {
        EXPECT.sentence("Promise 3", "BAD (-1): no such node");
        LeaderRows x = new LeaderRows();
        for (int node = 0; node < 12; node++) {
            due("deposit(" + node + ", ..)", x.deposit(node, 100 + node), 100 + node);
        }
        for (int node : Scenes.NO_NODES) {
            due("deposit(" + node + ", 0)", x.deposit(node, 0), BAD);
            due("deposit(" + node + ", 1)", x.deposit(node, 1), BAD);
        }
        for (int what = 2; what < 14; what++) {
            due("amount(" + what + ")", x.amount(what), 98 + what);
        }
    }

    private static void promise3NotInPhase0() {
        EXPECT.sentence("Promise 3", "NOT: not in PHASE 0");
        due("deposit(3, 1) in phase 0", inPhase(0).deposit(3, 1), 1001);
        for (int phase = 1; phase <= 3; phase++) {
            LeaderRows x = inPhase(phase);
            for (long more : new long[] {1, 0, -1, -1000, MOST - 1000}) {
                due("deposit(3, " + more + ") in phase " + phase, x.deposit(3, more), NOT);
            }
            due("deposit(3, -1001) in phase " + phase, x.deposit(3, -1001), BAD);
            due("deposit(3, 10^12 - 999) in phase " + phase, x.deposit(3, MOST - 999), BAD);
            due("amount(5)", x.amount(5), 1000);
        }
        LeaderRows x = inPhase(3);
        x.turn(true);
        due("deposit(3, 1) ahead of the last turn", x.deposit(3, 1), NOT);
        x.turn(true);
        due("deposit(3, 1) behind the last turn", x.deposit(3, 1), 1001);
    }

    // ---- 4

    private static void promise4EachTermHasItsBounds() {
        dueTerm("0 FACTOR 0 .. 100", 0, 0, 100);
        dueTerm("1 PENALTY 0 .. 100", 1, 0, 100);
        dueTerm("2 AWAY 1 .. 20", 2, 1, 20);
        dueTerm("3 PATIENCE 1 .. 20", 3, 1, 20);
    }

    private static void dueTerm(String words, int what, int least, int most) {
        EXPECT.sentence("Promise 4", words);
        LeaderRows x = new LeaderRows();
        int was = x.told(5 + what);
        for (int v : new int[] {least, most, least + 1, most - 1}) {
            due("term(" + what + ", " + v + ")", x.term(what, v), was);
            for (int bad : new int[] {least - 1, most + 1, Integer.MIN_VALUE, Integer.MAX_VALUE}) {
                due("term(" + what + ", " + bad + ")", x.term(what, bad), BAD);
            }
            due("told(" + (5 + what) + ")", x.told(5 + what), v);
            was = v;
        }
    }

    private static void promise4TermsAre0To3() {
        EXPECT.sentence("Promise 4", "BAD: a number is none that there is");
        LeaderRows x = new LeaderRows();
        for (int what : new int[] {-1, 4, 5, 8, Integer.MIN_VALUE, Integer.MAX_VALUE}) {
            for (int v : new int[] {0, 1, 20, 101}) {
                due("term(" + what + ", " + v + ")", x.term(what, v), BAD);
            }
        }
        int[] first = {3, 10, 2, 3};
        for (int what = 0; what < 4; what++) {
            due("told(" + (5 + what) + ")", x.told(5 + what), first[what]);
        }
    }

    private static void promise4BadInEachPhase() {
        EXPECT.sentence("Promise 4", "BAD");
        for (int phase = 0; phase <= 3; phase++) {
            LeaderRows x = inPhase(phase);
            due("term(4, 5) in phase " + phase, x.term(4, 5), BAD);
            due("term(-1, 5) in phase " + phase, x.term(-1, 5), BAD);
            due("term(0, 101) in phase " + phase, x.term(0, 101), BAD);
            due("term(3, 0) in phase " + phase, x.term(3, 0), BAD);
            due("told(5)", x.told(5), 3);
            due("told(8)", x.told(8), 3);
        }
    }

    private static void promise4WhichItWas() {
        EXPECT.sentence("Promise 4", "A TERM becomes v: which it was");
        LeaderRows x = new LeaderRows();
        due("term(1, 50)", x.term(1, 50), 10);
        due("term(1, 50) again", x.term(1, 50), 50);
        due("term(1, 0)", x.term(1, 0), 50);
        due("term(3, 9)", x.term(3, 9), 3);
        due("told(5), another term", x.told(5), 3);
        due("told(7), another term", x.told(7), 2);
    }

    private static void promise4NotInPhase0() {
        EXPECT.sentence("Promise 4", "NOT: not in PHASE 0");
        int[] first = {3, 10, 2, 3};
        for (int what = 0; what < 4; what++) {
            due("term(" + what + ", 5) in phase 0", inPhase(0).term(what, 5), first[what]);
            for (int phase = 1; phase <= 3; phase++) {
                LeaderRows x = inPhase(phase);
                due("term(" + what + ", 5) in phase " + phase, x.term(what, 5), NOT);
                due("told(" + (5 + what) + ")", x.told(5 + what), first[what]);
            }
            LeaderRows x = inPhase(3);
            x.turn(true);
            due("term(" + what + ", 5) ahead of the last turn", x.term(what, 5), NOT);
            x.turn(true);
            due("term(" + what + ", 5) behind the last turn", x.term(what, 5), first[what]);
        }
    }
}
