/**
 * Draws in which a number is not used, as it would make some leaders likelier than others. Chance
 * brings one in some 10^15 draws; the numbers here were sought so that one comes among the first
 * sixty, at z = 2^64 - 7684 and at z = 2^64 - 1529; others, so that z is the least, the greatest, or
 * one of the two in the middle. WEIGHTS do not change the SEED, so that the sum of them can be set
 * to have its bound just there.
 */
public final class RefusedNumberTest {
    private static final Expect EXPECT = new Expect();

    public static void main(String[] args) {
        EXPECT.sentence("Promise 9", "z is not used, if it is not below the greatest multiple of W that is 2^64 at most");
        row("far inside", 43291, 470222127, 11949, 49, 2);
        row("far inside", 6759, 598331079, 11949, 29, 2);
        row("z is the bound itself", 43291, 470222127, 8196, 49, 2);
        row("z is the bound itself", 6759, 598331079, 1739, 29, 2);
        row("z is one below the bound", 6759, 598331079, 1996, 29, 1);
        row("z is one below the bound", 6759, 598331079, 11976, 29, 1);
        row("the bound is 2^64", 43291, 470222127, 8192, 49, 1);
        row("the bound is 2^64", 6759, 598331079, 2, 29, 1);
        leastAndGreatest();
        EXPECT.sentence("Promise 9", "the next one is drawn");
        leadersBehindIt();
        EXPECT.finish();
    }

    /** Each node as much as it can have, the least first, and one at least for node 1. */
    private static int share(int node, int sum) {
        int first = Math.min(1000, sum - 1);
        return node == 0 ? first : Math.max(0, Math.min(1000, sum - first - 1000 * (node - 1)));
    }

    private static LeaderRows committed(long first, long second, int sum) {
        LeaderRows x = new LeaderRows();
        x.term(0, 0);
        for (int node = 0; node < 12; node++) {
            x.weight(node, share(node, sum));
            x.deposit(node, 1);
        }
        x.begin();
        x.commit(0, x.digest(0, first));
        x.commit(1, x.digest(1, second));
        x.opening();
        x.open(0, first);
        return x;
    }

    private static Model modelled(long first, long second, int sum) {
        Model m = new Model();
        m.term(0, 0);
        for (int node = 0; node < 12; node++) {
            m.weight(node, share(node, sum));
            m.deposit(node, 1);
        }
        m.begin();
        m.commit(0, m.digest(0, first));
        m.commit(1, m.digest(1, second));
        m.opening();
        m.open(0, first);
        return m;
    }

    private static void row(String what, long first, long second, int sum, int turn, int numbers) {
        LeaderRows x = committed(first, second, sum);
        Model m = modelled(first, second, sum);
        String run = what + ", W " + sum + ": ";
        EXPECT.due(run + "would(1)", x.would(1, second, true, 60), m.would(1, second, true, 60));
        EXPECT.due(run + "open(1)", x.open(1, second), m.open(1, second));
        EXPECT.due(run + "draw(60)", x.draw(60), m.draw(60));
        EXPECT.due(run + "told(4)", x.told(4), sum);
        for (int k = 0; k < 60; k++) {
            EXPECT.due(run + "drawn(" + k + ")", x.drawn(k), k == turn ? numbers : 1);
            EXPECT.due(run + "leader(" + k + ")", x.leader(k), m.leader(k));
        }
    }

    /** z is 0, 2^63 - 1, 2^63 or 2^64 - 1: the last one is used only if W divides 2^64. */
    private static void leastAndGreatest() {
        EXPECT.sentence("Promise 9", "taken as a number 0 .. 2^64 - 1");
        for (int sum : new int[] {2, 3, 1024, 1997, 8192, 11949, 12000}) {
            int ofGreatest = Integer.bitCount(sum) == 1 ? 1 : 2;
            row("z is 0", 147556070, 546094471, sum, 35, 1);
            row("z is 0", 190184212, 246553474, sum, 17, 1);
            row("z is 2^63 - 1", 469363118, 547978796, sum, 22, 1);
            row("z is 2^63", 38024377, 23142846, sum, 21, 1);
            row("z is 2^64 - 1", 358433626, 1017977229, sum, 22, ofGreatest);
            row("z is 2^64 - 1", 560563248, 848331865, sum, 23, ofGreatest);
        }
        EXPECT.sentence("Promise 9", "r is z modulo W");
        dueLeader("z is 0", 147556070, 546094471, 35, 0);
        dueLeader("z is 2^63 - 1", 469363118, 547978796, 22, 8);
        dueLeader("z is 2^63", 38024377, 23142846, 21, 0);
        dueLeader("z is 2^64 - 1", 358433626, 1017977229, 22, 8);
    }

    /** Eight nodes of 1000 and one of 192 are 8192 = 2^13: r is z's last 13 bits, 0 or 8191. */
    private static void dueLeader(String what, long first, long second, int turn, int who) {
        LeaderRows x = committed(first, second, 8192);
        x.open(1, second);
        x.draw(60);
        EXPECT.due(what + ": leader(" + turn + ")", x.leader(turn), who);
    }

    /** Reckoned outside this program: eleven nodes of 1000 and one of 949. */
    private static void leadersBehindIt() {
        int[] due = {5, 6, 8, 5, 10, 2, 2, 3, 10, 3, 3, 0, 1, 5, 7, 11, 6, 9, 10, 2, 8, 10, 8, 11, 10, 11, 9, 4, 5, 6,
            9, 4, 11, 2, 8, 10, 4, 7, 0, 11, 11, 1, 11, 11, 2, 5, 5, 10, 3, 9, 2, 7, 3, 0, 2, 11, 5, 11, 8, 6};
        LeaderRows x = new LeaderRows();
        x.term(0, 0);
        for (int node = 0; node < 12; node++) {
            x.weight(node, node == 11 ? 949 : 1000);
            x.deposit(node, 1);
        }
        x.begin();
        x.commit(0, x.digest(0, 43291));
        x.commit(1, x.digest(1, 470222127));
        x.opening();
        x.open(0, 43291);
        x.open(1, 470222127);
        EXPECT.due("draw(60)", x.draw(60), 12);
        EXPECT.due("amount(0)", x.amount(0), -2663275836107168554L);
        for (int k = 0; k < 60; k++) {
            EXPECT.due("leader(" + k + ")", x.leader(k), due[k]);
            EXPECT.due("drawn(" + k + ")", x.drawn(k), k == 49 ? 2 : 1);
        }
    }
}
