import java.util.ArrayList;
import java.util.HashSet;
import java.util.List;
import java.util.Set;

/** Promises 11 to 20, sentence by sentence, each bound from both sides. */
public final class AskingSentencesTest {
    private static final int BAD = Scenes.BAD, NONE = Scenes.NONE, NOT = Scenes.NOT;
    private static final long MOST = Scenes.MOST_DEPOSIT;
    private static final long MIN = Long.MIN_VALUE, MAX = Long.MAX_VALUE;
    private static final Expect EXPECT = new Expect();

    public static void main(String[] args) {
        promise11And12ItHasNotSoMany();
        promise11And12AlsoWhenItsEpochIsOver();
        promise11And12ThereWasNone();
        promise12ByWait();
        promise13SixtyAtMost();
        promise13NoSuchNode();
        promise14TheFirstThatIsNotAlike();
        promise14AtItsEnd();
        promise14WhichIsEmptyThen();
        promise14TheLatestRow();
        promise15OfSoMany();
        promise15InPhase2();
        promise15BadInEachPhase();
        promise15IfItOpened();
        promise15IfItOpenedOrDidNot();
        promise15AllOthersAsTheyAreNow();
        promise15NothingChanges();
        promise15Not();
        promise16HowManyCouldStillOpen();
        promise16RowsToChooseFrom();
        promise16InOtherPhases();
        promise17TheDigestWraps();
        promise17NoSuchNode();
        promise18EachOfANode();
        promise18InPhases1To3();
        promise18Bad();
        promise19EachOfTheWhole();
        promise19ForOthers();
        promise20EachThatIsTold();
        promise20WhichIsNext();
        promise20OfTheLatestRow();
        promise20Bad();
        EXPECT.eachPromise(11, 20);
        EXPECT.finish();
    }

    private static void due(String call, long got, long want) {
        EXPECT.due(call, got, want);
    }

    /** An EPOCH with a ROW of so many TURNS, all done. */
    private static void passRow(LeaderRows x, int turns) {
        Scenes.drawWithout(x, turns);
        finishRow(x);
    }

    private static void finishRow(LeaderRows x) {
        while (x.told(0) == 3) {
            x.turn(true);
        }
    }

    // ---- 11, 12

    private static void promise11And12ItHasNotSoMany() {
        for (int turns : new int[] {1, 2, 59, 60}) {
            LeaderRows x = Scenes.with(7, 1);
            Scenes.drawWithout(x, turns);
            EXPECT.sentence("Promise 11", "it has not so many");
            due("leader(0) of " + turns, x.leader(0), 7);
            due("leader of the last of " + turns, x.leader(turns - 1), 7);
            for (int k : new int[] {turns, turns + 1, 60, 61, Integer.MAX_VALUE}) {
                due("leader(" + k + ") of " + turns, x.leader(k), NONE);
            }
            EXPECT.sentence("Promise 12", "NONE, BAD likewise");
            due("drawn(0) of " + turns, x.drawn(0), 1);
            due("drawn of the last of " + turns, x.drawn(turns - 1), 1);
            for (int k : new int[] {turns, turns + 1, 60, 61, Integer.MAX_VALUE}) {
                due("drawn(" + k + ") of " + turns, x.drawn(k), NONE);
            }
            dueBelow0(x);
        }
        dueBelow0(new LeaderRows());
    }

    private static void dueBelow0(LeaderRows x) {
        for (int k : new int[] {-1, -2, -60, Integer.MIN_VALUE}) {
            EXPECT.sentence("Promise 11", "BAD: below 0");
            due("leader(" + k + ")", x.leader(k), BAD);
            EXPECT.sentence("Promise 12", "NONE, BAD likewise");
            due("drawn(" + k + ")", x.drawn(k), BAD);
        }
    }

    private static void promise11And12AlsoWhenItsEpochIsOver() {
        EXPECT.sentence("Promise 11", "(also when its EPOCH is over)");
        LeaderRows x = Scenes.with(7, 1);
        passRow(x, 9);
        dueLength(x, 9);
        x.weight(7, 5);
        dueLength(x, 9);
        x.begin();
        dueLength(x, 9);
        x.opening();
        dueLength(x, 9);
        x.draw(4);
        dueLength(x, 4);
        finishRow(x);
        dueLength(x, 4);
        passRow(x, 60);
        dueLength(x, 60);
    }

    private static void dueLength(LeaderRows x, int turns) {
        due("leader(" + (turns - 1) + ")", x.leader(turns - 1), 7);
        due("drawn(" + (turns - 1) + ")", x.drawn(turns - 1), 1);
        due("leader(" + turns + ")", x.leader(turns), NONE);
        due("drawn(" + turns + ")", x.drawn(turns), NONE);
    }

    private static void promise11And12ThereWasNone() {
        EXPECT.sentence("Promise 11", "NONE: it has not so many, there was none");
        LeaderRows x = Scenes.with(7, 1);
        for (int phase = 0; phase <= 2; phase++) {
            due("leader(0) in phase " + phase, x.leader(0), NONE);
            due("drawn(0) in phase " + phase, x.drawn(0), NONE);
            if (phase == 0) {
                x.begin();
            } else {
                x.opening();
            }
        }
        x.draw(3);
        due("leader(0)", x.leader(0), 7);
        finishRow(x);
        x.weight(7, 0);
        Scenes.drawWithout(x, 3);
        due("leader(0) of an empty one", x.leader(0), NONE);
        due("drawn(0) of an empty one", x.drawn(0), NONE);
    }

    private static void promise12ByWait() {
        EXPECT.sentence("Promise 12", "(0: by WAIT)");
        LeaderRows x = Scenes.with(4, 1, 8, 1);
        x.term(0, 1);
        Scenes.drawWithout(x, 60);
        int byWait = 0;
        for (int k = 2; k < 60; k++) {
            // W is 2: who did not lead two TURNS is OVERDUE.
            boolean overdue = x.leader(k - 1) == x.leader(k - 2);
            due("drawn(" + k + ")", x.drawn(k), overdue ? 0 : 1);
            EXPECT.holds("leader(" + k + ") by wait is the other one", !overdue || x.leader(k) != x.leader(k - 1));
            byWait += overdue ? 1 : 0;
        }
        EXPECT.holds("some by wait, some not", byWait > 0 && byWait < 58);
    }

    // ---- 13

    private static void promise13SixtyAtMost() {
        EXPECT.sentence("Promise 13", "THE CLAIM gets a node more (60 at most): how many it has");
        LeaderRows x = new LeaderRows();
        for (int time = 1; time <= 2; time++) {
            for (int k = 1; k <= 60; k++) {
                due("claim, the " + k + "th", x.claim(k % 12), k);
            }
            for (int node = 0; node < 12; node++) {
                due("claim(" + node + "), the 61st", x.claim(node), NOT);
            }
            due("check()", x.check(), 0);
        }
        EXPECT.sentence("Promise 13", "NOT: it has 60");
        LeaderRows y = Scenes.with(7, 1);
        passRow(y, 60);
        for (int k = 1; k <= 60; k++) {
            y.claim(7);
        }
        due("claim(7)", y.claim(7), NOT);
        due("claim(0)", y.claim(0), NOT);
        due("check(), the sixty are as they were", y.check(), NONE);
    }

    private static void promise13NoSuchNode() {
        EXPECT.sentence("Promise 13", "BAD: no such node");
        LeaderRows x = new LeaderRows();
        for (int node : Scenes.NO_NODES) {
            due("claim(" + node + ")", x.claim(node), BAD);
        }
        due("claim(0)", x.claim(0), 1);
        due("claim(11)", x.claim(11), 2);
        for (int node : Scenes.NO_NODES) {
            due("claim(" + node + ")", x.claim(node), BAD);
        }
        due("claim(0)", x.claim(0), 3);
        for (int k = 4; k <= 60; k++) {
            x.claim(0);
        }
        for (int node : Scenes.NO_NODES) {
            due("claim(" + node + "), full", x.claim(node), BAD);
        }
    }

    // ---- 14

    private static LeaderRows rowOf(int turns) {
        LeaderRows x = Scenes.with(2, 1, 6, 1, 9, 1);
        passRow(x, turns);
        return x;
    }

    private static void claimFirst(LeaderRows x, int many) {
        for (int k = 0; k < many; k++) {
            x.claim(x.leader(k));
        }
    }

    private static void promise14TheFirstThatIsNotAlike() {
        EXPECT.sentence("Promise 14", "the first TURN that is not alike");
        for (int unlike : new int[] {0, 1, 30, 58, 59}) {
            LeaderRows x = rowOf(60);
            claimFirst(x, unlike);
            x.claim(x.leader(unlike) == 2 ? 6 : 2);
            for (int k = unlike + 1; k < 60; k++) {
                x.claim(0);
            }
            due("check(), not alike from " + unlike, x.check(), unlike);
        }
        EXPECT.sentence("Promise 14", "NONE: they are alike");
        for (int turns : new int[] {1, 2, 59, 60}) {
            LeaderRows x = rowOf(turns);
            claimFirst(x, turns);
            due("check() of " + turns, x.check(), NONE);
        }
    }

    private static void promise14AtItsEnd() {
        EXPECT.sentence("Promise 14", "(one of them may be at its end)");
        for (int turns : new int[] {1, 2, 59, 60}) {
            LeaderRows x = rowOf(turns);
            due("check() of nothing against " + turns, x.check(), 0);
            claimFirst(x, turns - 1);
            due("check() of one less than " + turns, x.check(), turns - 1);
            if (turns < 60) {
                claimFirst(x, turns);
                x.claim(2);
                due("check() of one more than " + turns, x.check(), turns);
            }
        }
        LeaderRows none = new LeaderRows();
        due("check() of nothing without a row", none.check(), NONE);
        none.claim(0);
        due("check() of one without a row", none.check(), 0);
        for (int k = 1; k <= 60; k++) {
            none.claim(11);
        }
        due("check() of sixty without a row", none.check(), 0);
        Scenes.drawWithout(none, 5);
        due("check() of nothing against an empty row", none.check(), NONE);
        none.claim(0);
        due("check() of one against an empty row", none.check(), 0);
    }

    private static void promise14WhichIsEmptyThen() {
        EXPECT.sentence("Promise 14", "THE CLAIM, which is empty then");
        LeaderRows x = rowOf(3);
        claimFirst(x, 3);
        due("check(), alike", x.check(), NONE);
        due("claim(2) behind it", x.claim(2), 1);
        x.check();
        due("claim(0)", x.claim(0), 1);
        due("check(), not alike", x.check(), 0);
        due("claim(2) behind it", x.claim(2), 1);
        x.check();
        due("check() again", x.check(), 0);
        claimFirst(x, 3);
        due("check(), nothing of it is left", x.check(), NONE);
    }

    private static void promise14TheLatestRow() {
        EXPECT.sentence("Promise 14", "is held against the latest ROW");
        LeaderRows x = Scenes.with(7, 1);
        x.begin();
        due("claim(7), ahead of the row", x.claim(7), 1);
        x.opening();
        due("claim(7), in phase 2", x.claim(7), 2);
        x.draw(3);
        due("claim(7), in phase 3", x.claim(7), 3);
        due("check() in phase 3", x.check(), NONE);
        claimFirst(x, 3);
        finishRow(x);
        due("check() behind the epoch", x.check(), NONE);
        claimFirst(x, 3);
        passRow(x, 2);
        due("check() against the next row", x.check(), 2);
        claimFirst(x, 2);
        x.begin();
        x.opening();
        due("check() in phase 2", x.check(), NONE);
    }

    // ---- 15

    /** Nodes 0, 4, 7, 11; all but 0 COMMIT, to 100 + node; these OPEN. */
    private static LeaderRows opened(int... openers) {
        LeaderRows x = Scenes.with(0, 3, 4, 2, 7, 4, 11, 5);
        passRow(x, 10);
        x.begin();
        for (int node : new int[] {4, 7, 11}) {
            x.commit(node, x.digest(node, 100 + node));
        }
        x.opening();
        for (int node : openers) {
            x.open(node, 100 + node);
        }
        return x;
    }

    private static int leads(LeaderRows x, int node) {
        int leads = 0;
        for (int k = 0; k < x.told(2); k++) {
            leads += x.leader(k) == node ? 1 : 0;
        }
        return leads;
    }

    private static void promise15OfSoMany() {
        EXPECT.sentence("Promise 15", "how many TURNS of a ROW of so many (1 .. 60)");
        for (int turns : new int[] {1, 2, 59, 60}) {
            LeaderRows drawn = opened(7);
            drawn.draw(turns);
            LeaderRows x = opened();
            due("would(7, 107, true, " + turns + ")", x.would(7, 107, true, turns), leads(drawn, 7));
            EXPECT.holds("it is one of so many", x.would(7, 107, true, turns) <= turns);
        }
        LeaderRows x = opened();
        for (int bad : new int[] {0, -1, 61, Integer.MIN_VALUE, Integer.MAX_VALUE}) {
            due("would(7, 107, true, " + bad + ")", x.would(7, 107, true, bad), BAD);
            due("would(7, 107, false, " + bad + ")", x.would(7, 107, false, bad), BAD);
        }
        for (int node : Scenes.NO_NODES) {
            due("would(" + node + ", 107, true, 1)", x.would(node, 107, true, 1), BAD);
            due("would(" + node + ", 107, false, 1)", x.would(node, 107, false, 1), BAD);
        }
        LeaderRows alone = Scenes.with(7, 1);
        alone.begin();
        alone.commit(7, alone.digest(7, 1));
        alone.opening();
        due("would(7, 1, true, 60), alone", alone.would(7, 1, true, 60), 60);
        due("would(7, 1, true, 1), alone", alone.would(7, 1, true, 1), 1);
    }

    private static void promise15InPhase2() {
        EXPECT.sentence("Promise 15", "In PHASE 2");
        LeaderRows x = Scenes.with(3, 5);
        for (int epoch = 1; epoch <= 2; epoch++) {
            due("would(3, 6, true, 9) in phase 0", x.would(3, 6, true, 9), NOT);
            x.begin();
            x.commit(3, x.digest(3, 6));
            due("would(3, 6, true, 9) in phase 1", x.would(3, 6, true, 9), NOT);
            x.opening();
            due("would(3, 6, true, 9) in phase 2", x.would(3, 6, true, 9), 9);
            x.open(3, 6);
            x.draw(1);
            due("would(3, 6, true, 9) in phase 3", x.would(3, 6, true, 9), NOT);
            x.turn(true);
        }
    }

    private static void promise15BadInEachPhase() {
        EXPECT.sentence("Promise 15", "BAD");
        LeaderRows x = Scenes.with(3, 5);
        for (int phase = 0; phase <= 3; phase++) {
            due("told(0)", x.told(0), phase);
            for (boolean opens : new boolean[] {true, false}) {
                due("would(12, 6, " + opens + ", 9) in phase " + phase, x.would(12, 6, opens, 9), BAD);
                due("would(-1, 6, " + opens + ", 9) in phase " + phase, x.would(-1, 6, opens, 9), BAD);
                due("would(3, 6, " + opens + ", 0) in phase " + phase, x.would(3, 6, opens, 0), BAD);
                due("would(3, 6, " + opens + ", 61) in phase " + phase, x.would(3, 6, opens, 61), BAD);
            }
            if (phase == 0) {
                x.begin();
            } else if (phase == 1) {
                x.opening();
            } else {
                x.draw(1);
            }
        }
    }

    private static void promise15IfItOpened() {
        EXPECT.sentence("Promise 15", "that was drawn now a node would lead, if it OPENED a NUMBER ahead of that");
        for (int node : new int[] {4, 7, 11}) {
            LeaderRows x = opened();
            int would = x.would(node, 100 + node, true, 50);
            x.open(node, 100 + node);
            x.draw(50);
            due("would(" + node + ", .., true, 50)", would, leads(x, node));
        }
    }

    private static void promise15IfItOpenedOrDidNot() {
        EXPECT.sentence("Promise 15", "or (not opens) did not");
        LeaderRows x = opened(4, 11);
        due("would(7, 107, false, 60)", x.would(7, 107, false, 60), 0);
        due("would(7, 0, false, 60), its number is not asked for", x.would(7, 0, false, 60), 0);
        EXPECT.holds("would(7, 107, true, 60) is above 0", x.would(7, 107, true, 60) > 0);
        for (int factor : new int[] {0, 1, 100}) {
            for (int node = 0; node < 12; node++) {
                LeaderRows alone = Scenes.with(node, 1);
                alone.term(0, factor);
                alone.begin();
                alone.commit(node, 0);
                alone.opening();
                due("would(" + node + ", 0, false, 60) without any elector", alone.would(node, 0, false, 60), 0);
                due("told(0)", alone.told(0), 2);
            }
        }
    }

    private static void promise15AllOthersAsTheyAreNow() {
        EXPECT.sentence("Promise 15", "all others as they are now");
        int[][] others = {{}, {4}, {11}, {4, 11}};
        int[][] withSeven = {{7}, {4, 7}, {11, 7}, {4, 11, 7}};
        for (int i = 0; i < others.length; i++) {
            LeaderRows drawn = opened(withSeven[i]);
            due("draw(60)", drawn.draw(60), 2 + others[i].length);
            due("would(7, 107, true, 60), " + others[i].length + " others opened", opened(others[i]).would(7, 107, true, 60), leads(drawn, 7));
        }
        LeaderRows x = opened();
        due("would(4, 104, true, 60)", x.would(4, 104, true, 60), leadsOfDraw(4));
        due("would(11, 111, true, 60)", x.would(11, 111, true, 60), leadsOfDraw(11));
    }

    private static int leadsOfDraw(int node) {
        LeaderRows drawn = opened(node);
        drawn.draw(60);
        return leads(drawn, node);
    }

    private static void promise15NothingChanges() {
        EXPECT.sentence("Promise 15", "Nothing changes");
        LeaderRows asked = opened(4);
        for (int turns = 1; turns <= 60; turns++) {
            asked.would(7, 107, true, turns);
            asked.would(11, 111, false, turns);
        }
        EXPECT.holds("all that is seen is as without", Scenes.seen(asked).equals(Scenes.seen(opened(4))));
        LeaderRows again = opened(4);
        LeaderRows without = opened(4);
        again.would(7, 107, true, 60);
        again.would(7, 107, false, 60);
        due("draw(20)", again.draw(20), without.draw(20));
        EXPECT.holds("the row is as without", Scenes.seen(again).equals(Scenes.seen(without)));
    }

    private static void promise15Not() {
        EXPECT.sentence("Promise 15", "it did not COMMIT, or did OPEN, or (opens) its DIGEST is not that of the NUMBER");
        LeaderRows x = opened(4);
        for (boolean opens : new boolean[] {true, false}) {
            due("would(0, 100, " + opens + ", 5), did not commit", x.would(0, 100, opens, 5), NOT);
            due("would(1, 100, " + opens + ", 5), no member", x.would(1, 100, opens, 5), NOT);
            due("would(4, 104, " + opens + ", 5), did open", x.would(4, 104, opens, 5), NOT);
        }
        due("would(7, 106, true, 5), another number", x.would(7, 106, true, 5), NOT);
        due("would(7, 106, false, 5), another number", x.would(7, 106, false, 5), 0);
        EXPECT.holds("would(7, 107, true, 5)", x.would(7, 107, true, 5) >= 0);
        EXPECT.sentence("Promise 15", "NOT: not in PHASE 2");
        LeaderRows y = Scenes.with(3, 5, 4, 5);
        dueNotWould(y, 0);
        y.begin();
        y.commit(3, y.digest(3, 6));
        dueNotWould(y, 1);
        y.opening();
        due("would(3, 6, false, 1) in phase 2", y.would(3, 6, false, 1), 0);
        y.draw(1);
        dueNotWould(y, 3);
        y.turn(true);
        dueNotWould(y, 0);
    }

    private static void dueNotWould(LeaderRows x, int phase) {
        due("told(0)", x.told(0), phase);
        due("would(3, 6, true, 1) in phase " + phase, x.would(3, 6, true, 1), NOT);
        due("would(3, 6, false, 60) in phase " + phase, x.would(3, 6, false, 60), NOT);
    }

    // ---- 16

    private static void promise16HowManyCouldStillOpen() {
        EXPECT.sentence("Promise 16", "How many of the nodes 0 .. 11 could still OPEN in PHASE 2 (they COMMITTED, and did not)");
        LeaderRows x = Scenes.twelve(1);
        x.begin();
        for (int node = 0; node < 12; node++) {
            x.commit(node, x.digest(node, node));
        }
        x.opening();
        for (int node = 0; node < 12; node++) {
            due("choices()", x.choices(), 12 - node);
            due("open(" + node + "), another number", x.open(node, node + 1), NOT);
            due("choices()", x.choices(), 12 - node);
            x.open(node, node);
        }
        due("choices(), all did", x.choices(), 0);
        for (int many = 0; many <= 12; many++) {
            LeaderRows some = Scenes.twelve(1);
            some.begin();
            for (int node = 0; node < many; node++) {
                some.commit(node, 0);
            }
            some.opening();
            due("choices() of " + many + " that did not open", some.choices(), many);
        }
    }

    /** Each set of those that could still OPEN brings a SEED, and a ROW, of its own. */
    private static void promise16RowsToChooseFrom() {
        EXPECT.sentence("Promise 16", "the rows that withholding can choose from are 2 to that");
        for (int many = 0; many <= 12; many++) {
            Set<List<Long>> rows = new HashSet<>();
            for (int openers = 0; openers < 1 << many; openers++) {
                LeaderRows x = Scenes.twelve(1);
                x.begin();
                for (int node = 0; node < many; node++) {
                    x.commit(node, x.digest(node, node));
                }
                x.opening();
                due("choices()", x.choices(), many);
                for (int node = 0; node < many; node++) {
                    if ((openers >> node & 1) == 1) {
                        x.open(node, node);
                    }
                }
                x.draw(60);
                rows.add(rowOf(x));
            }
            due("rows with choices() " + many, rows.size(), 1 << many);
        }
    }

    private static List<Long> rowOf(LeaderRows x) {
        List<Long> row = new ArrayList<>();
        row.add(x.amount(0));
        for (int k = 0; k < x.told(2); k++) {
            row.add((long) x.leader(k));
        }
        return row;
    }

    private static void promise16InOtherPhases() {
        EXPECT.sentence("Promise 16", "0 in other PHASES");
        LeaderRows x = Scenes.with(3, 5, 4, 5);
        due("choices() in phase 0", x.choices(), 0);
        x.begin();
        x.commit(3, 0);
        due("choices() in phase 1", x.choices(), 0);
        x.opening();
        due("choices() in phase 2", x.choices(), 1);
        x.draw(1);
        due("choices() in phase 3", x.choices(), 0);
        x.turn(true);
        due("choices() in rest behind it", x.choices(), 0);
        x.begin();
        x.opening();
        due("choices() in the next phase 2", x.choices(), 0);
    }

    // ---- 17

    private static void promise17TheDigestWraps() {
        EXPECT.sentence("Promise 17", "MIX(MIX(NUMBER) + (node + 1) G)");
        long[] numbers = {0, 1, -1, MIN, MAX};
        int[] nodes = {0, 1, 11};
        long[][] digests = {
            {-2152535657050944081L, -4616330145664149646L, -6523613405836042406L, 7568450554649527987L, -8167313015721612095L},
            {7960286522194355700L, 6869446166584666695L, -5438901102636068674L, -666781577701132807L, -6099300897201588802L},
            {-4408136866661146890L, -8603295654659979639L, 6859762210871753562L, -8887040834969920410L, 5700368949767574054L}};
        LeaderRows x = new LeaderRows();
        for (int i = 0; i < nodes.length; i++) {
            for (int j = 0; j < numbers.length; j++) {
                due("digest(" + nodes[i] + ", " + numbers[j] + ")", x.digest(nodes[i], numbers[j]), digests[i][j]);
            }
        }
    }

    private static void promise17NoSuchNode() {
        EXPECT.sentence("Promise 17", "0: no such node");
        LeaderRows x = new LeaderRows();
        for (int node : Scenes.NO_NODES) {
            for (long number : new long[] {0, 1, -1, MIN, MAX}) {
                due("digest(" + node + ", " + number + ")", x.digest(node, number), 0);
            }
        }
        for (int node = 0; node < 12; node++) {
            EXPECT.holds("digest(" + node + ", 1) is there", x.digest(node, 1) != 0);
        }
    }

    // ---- 18

    private static void dueNode(String when, LeaderRows x, int node, int... answers) {
        for (int what = 0; what <= 8; what++) {
            due(when + ": node(" + node + ", " + what + ")", x.node(node, what), answers[what]);
        }
    }

    private static void promise18EachOfANode() {
        EXPECT.sentence("Promise 18", "Of a node: 0 WEIGHT, 1 WAIT, 2 LED, 3 MISSED, 4 up to which EPOCH it is ASIDE (0: IN)");
        LeaderRows x = Scenes.with(0, 1000, 11, 1);
        x.term(0, 0);
        x.term(3, 3);
        dueNode("in rest", x, 0, 1000, 0, 0, 0, 0, 0, 0, 0, 0);
        Scenes.drawWithout(x, 6);
        dueNode("in phase 3", x, 0, 1000, 0, 0, 0, 0, 1, 0, 0, 0);
        dueNode("in phase 3", x, 11, 1, 6, 0, 0, 0, 1, 0, 0, 0);
        x.turn(true);
        x.turn(false);
        x.turn(false);
        dueNode("behind three turns", x, 0, 1000, 0, 1, 2, 0, 1, 0, 0, 2);
        x.turn(false);
        dueNode("behind four turns", x, 0, 1000, 0, 1, 3, 3, 1, 0, 0, 0);
        x.turn(false);
        x.turn(true);
        dueNode("in rest", x, 0, 1000, 0, 2, 4, 3, 0, 0, 0, 0);
        dueNode("in rest", x, 11, 1, 6, 0, 0, 0, 0, 0, 0, 0);
    }

    private static void promise18InPhases1To3() {
        EXPECT.sentence("Promise 18", "5 whether it is a MEMBER of this EPOCH (in PHASES 1 to 3), 6 COMMITTED, 7 OPENED in it (1, 0; 0 in PHASE 0)");
        LeaderRows x = Scenes.with(0, 1, 5, 1, 11, 1);
        dueFlags(x, 0, 0, 0, 0);
        x.begin();
        dueFlags(x, 0, 1, 0, 0);
        dueFlags(x, 1, 0, 0, 0);
        x.commit(0, x.digest(0, 5));
        x.commit(5, x.digest(5, 5));
        dueFlags(x, 0, 1, 1, 0);
        x.opening();
        x.open(0, 5);
        dueFlags(x, 0, 1, 1, 1);
        dueFlags(x, 5, 1, 1, 0);
        dueFlags(x, 11, 1, 0, 0);
        x.draw(1);
        dueFlags(x, 0, 1, 1, 1);
        dueFlags(x, 5, 1, 1, 0);
        dueFlags(x, 11, 1, 0, 0);
        x.turn(true);
        for (int node : new int[] {0, 5, 11}) {
            dueFlags(x, node, 0, 0, 0);
        }
        x.begin();
        dueFlags(x, 0, 1, 0, 0);
        dueFlags(x, 5, 0, 0, 0);
    }

    private static void dueFlags(LeaderRows x, int node, int member, int committed, int opened) {
        String when = "in phase " + x.told(0) + " of epoch " + x.told(1) + ": node(" + node;
        due(when + ", 5)", x.node(node, 5), member);
        due(when + ", 6)", x.node(node, 6), committed);
        due(when + ", 7)", x.node(node, 7), opened);
    }

    private static void promise18Bad() {
        EXPECT.sentence("Promise 18", "how many of its own TURNS it missed one behind the other. BAD");
        LeaderRows x = Scenes.twelve(1);
        for (int what : new int[] {-1, 9, 10, Integer.MIN_VALUE, Integer.MAX_VALUE}) {
            for (int node = 0; node < 12; node++) {
                due("node(" + node + ", " + what + ")", x.node(node, what), BAD);
            }
            due("node(12, " + what + ")", x.node(12, what), BAD);
        }
        for (int node : Scenes.NO_NODES) {
            for (int what = 0; what <= 8; what++) {
                due("node(" + node + ", " + what + ")", x.node(node, what), BAD);
            }
        }
        for (int node = 0; node < 12; node++) {
            due("node(" + node + ", 0)", x.node(node, 0), 1);
            due("node(" + node + ", 8)", x.node(node, 8), 0);
        }
    }

    // ---- 19

    private static void promise19EachOfTheWhole() {
        EXPECT.sentence("Promise 19", "Of the whole: 0 the SEED, 1 the POT, 2 .. 13 the DEPOSIT of node what - 2");
        LeaderRows x = new LeaderRows();
        for (int node = 0; node < 12; node++) {
            x.deposit(node, node == 11 ? MOST : 50 + node);
        }
        x.weight(11, 1);
        x.term(1, 100);
        for (int node = 0; node < 12; node++) {
            due("amount(" + (2 + node) + ")", x.amount(2 + node), node == 11 ? MOST : 50 + node);
        }
        due("amount(0)", x.amount(0), 0);
        due("amount(1)", x.amount(1), 0);
        Scenes.withholdIn(x, 11);
        due("amount(0)", x.amount(0), -2152535657050944081L);
        due("amount(1)", x.amount(1), MOST);
        due("amount(13)", x.amount(13), 0);
        due("amount(12)", x.amount(12), 60);
    }

    private static void promise19ForOthers() {
        EXPECT.sentence("Promise 19", "0 for others");
        LeaderRows x = Scenes.twelve(1);
        x.begin();
        x.commit(0, 0);
        x.opening();
        x.draw(1);
        for (int what : new int[] {-1, -2, 14, 15, 26, Integer.MIN_VALUE, Integer.MAX_VALUE}) {
            due("amount(" + what + ")", x.amount(what), 0);
        }
        due("amount(2)", x.amount(2), 900);
        due("amount(13)", x.amount(13), 1000);
        EXPECT.holds("amount(0) is there", x.amount(0) != 0);
    }

    // ---- 20

    private static void promise20EachThatIsTold() {
        EXPECT.sentence("Promise 20", "0 PHASE, 1 EPOCH, 2 TURNS of the latest ROW");
        LeaderRows x = Scenes.with(3, 5, 4, 6);
        dueTold(x, 0, 0, 0, 0, 0, 3, 10, 2, 3);
        x.begin();
        dueTold(x, 1, 1, 0, 0, 0, 3, 10, 2, 3);
        x.opening();
        dueTold(x, 2, 1, 0, 0, 0, 3, 10, 2, 3);
        x.draw(60);
        dueTold(x, 3, 1, 60, 0, 11, 3, 10, 2, 3);
        finishRow(x);
        dueTold(x, 0, 1, 60, 0, 11, 3, 10, 2, 3);
        EXPECT.sentence("Promise 20", "5 .. 8 TERMS");
        x.term(0, 100);
        x.term(1, 0);
        x.term(2, 20);
        x.term(3, 1);
        dueTold(x, 0, 1, 60, 0, 11, 100, 0, 20, 1);
    }

    private static void dueTold(LeaderRows x, int... answers) {
        for (int what = 0; what <= 8; what++) {
            due("told(" + what + ")", x.told(what), answers[what]);
        }
    }

    private static void promise20WhichIsNext() {
        EXPECT.sentence("Promise 20", "3 which of them is next (in PHASE 3, else 0)");
        LeaderRows x = Scenes.with(3, 5);
        for (int epoch = 1; epoch <= 2; epoch++) {
            Scenes.drawWithout(x, 60);
            for (int k = 0; k < 60; k++) {
                due("told(3)", x.told(3), k);
                x.turn(true);
            }
            due("told(3) in rest", x.told(3), 0);
        }
        x.begin();
        due("told(3) in phase 1", x.told(3), 0);
        x.opening();
        due("told(3) in phase 2", x.told(3), 0);
        x.draw(1);
        due("told(3) in phase 3", x.told(3), 0);
    }

    private static void promise20OfTheLatestRow() {
        EXPECT.sentence("Promise 20", "4 W of the latest ROW");
        LeaderRows x = Scenes.twelve(1000);
        passRow(x, 2);
        due("told(4), the greatest", x.told(4), 12000);
        for (int node = 1; node < 12; node++) {
            x.weight(node, 0);
        }
        x.weight(0, 1);
        due("told(4), as it was", x.told(4), 12000);
        x.begin();
        due("told(4) in phase 1", x.told(4), 12000);
        x.opening();
        due("told(4) in phase 2", x.told(4), 12000);
        x.draw(1);
        due("told(4), the least", x.told(4), 1);
        x.turn(true);
        x.weight(0, 0);
        due("told(4), as it was", x.told(4), 1);
        Scenes.drawWithout(x, 1);
        due("told(4) of an empty one", x.told(4), 0);
        due("told(2) of an empty one", x.told(2), 0);
    }

    private static void promise20Bad() {
        EXPECT.sentence("Promise 20", "5 .. 8 TERMS. BAD");
        LeaderRows x = new LeaderRows();
        for (int phase = 0; phase <= 2; phase++) {
            for (int what : new int[] {-1, 9, 10, Integer.MIN_VALUE, Integer.MAX_VALUE}) {
                due("told(" + what + ") in phase " + phase, x.told(what), BAD);
            }
            due("told(0)", x.told(0), phase);
            due("told(8)", x.told(8), 3);
            if (phase == 0) {
                x.begin();
            } else {
                x.opening();
            }
        }
    }
}
