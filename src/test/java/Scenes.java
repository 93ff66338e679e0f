import java.util.ArrayList;
import java.util.List;

/** Ways into a state of a LeaderRows, and all that can be seen of one. */
final class Scenes {
    static final int BAD = -1, NONE = -2, NOT = -3;
    static final long MOST_DEPOSIT = 1_000_000_000_000L;
    /** On both sides of the nodes 0 .. 11, next to them and far off. */
    static final int[] NO_NODES = {-1, 12, Integer.MIN_VALUE, Integer.MAX_VALUE};

    private Scenes() {
    }

    /** In rest: pairs of a node and its WEIGHT, each with a DEPOSIT of 1000. */
    static LeaderRows with(int... nodesAndWeights) {
        LeaderRows x = new LeaderRows();
        for (int i = 0; i + 1 < nodesAndWeights.length; i += 2) {
            x.weight(nodesAndWeights[i], nodesAndWeights[i + 1]);
            x.deposit(nodesAndWeights[i], 1000);
        }
        return x;
    }

    static LeaderRows twelve(int weight) {
        LeaderRows x = new LeaderRows();
        for (int node = 0; node < 12; node++) {
            x.weight(node, weight);
            x.deposit(node, 1000);
        }
        return x;
    }

    /** An EPOCH up to its TURNS in which nobody COMMITS. */
    static int drawWithout(LeaderRows x, int turns) {
        x.begin();
        x.opening();
        return x.draw(turns);
    }

    /** An EPOCH in which nobody COMMITS, with one TURN that is done, or none. */
    static void passEpoch(LeaderRows x) {
        drawWithout(x, 1);
        x.turn(true);
    }

    /** An EPOCH in which these COMMIT to what they do not OPEN; its TURNS are done. */
    static void withholdIn(LeaderRows x, int... nodes) {
        x.begin();
        for (int node : nodes) {
            x.commit(node, 0);
        }
        x.opening();
        x.draw(1);
        x.turn(true);
    }

    /** All that can be asked without a change; fewer than 300 calls. */
    static List<Long> seen(LeaderRows x) {
        List<Long> answers = new ArrayList<>();
        for (int what = 0; what <= 8; what++) {
            answers.add((long) x.told(what));
            for (int node = 0; node < 12; node++) {
                answers.add((long) x.node(node, what));
            }
        }
        for (int what = 0; what <= 13; what++) {
            answers.add(x.amount(what));
        }
        for (int k = 0; k <= x.told(2); k++) {
            answers.add((long) x.leader(k));
            answers.add((long) x.drawn(k));
        }
        answers.add((long) x.choices());
        return answers;
    }
}
