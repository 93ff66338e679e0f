import java.util.ArrayList;
import java.util.HashMap;
import java.util.List;
import java.util.Map;
import java.util.function.ToLongFunction;

/**
 * Each refusal of each promise, in each state that has it: the call answers so, of several the first
 * one in the document's order (BAD, NOT, NONE), and nothing has changed: all that is seen, and all
 * that the same calls answer from there on, is as on a twin that was not asked.
 */
public final class RefusalsTest {
    private static final int BAD = Scenes.BAD, NONE = Scenes.NONE, NOT = Scenes.NOT;
    private static final int MIN = Integer.MIN_VALUE, MAX = Integer.MAX_VALUE;
    private static final Expect EXPECT = new Expect();

    /** PHASES of a third EPOCH, behind one that 9 withheld in, and THE CLAIM has two nodes. */
    private static final Scene NEW = Scene.NEW, REST = Scene.REST, COMMITTING = Scene.COMMITTING, OPENING = Scene.OPENING,
        TURNS = Scene.TURNS, LAST_TURN = Scene.LAST_TURN, EMPTY_ROW = Scene.EMPTY_ROW, FULL_CLAIM = Scene.FULL_CLAIM;
    private static final Scene[] IN_REST = {NEW, REST, EMPTY_ROW, FULL_CLAIM};
    private static final Scene[] IN_TURNS = {TURNS, LAST_TURN};

    private static final Map<Scene, List<Long>> SEEN = new HashMap<>(), LATER = new HashMap<>();

    private enum Scene { NEW, REST, COMMITTING, OPENING, TURNS, LAST_TURN, EMPTY_ROW, FULL_CLAIM }

    public static void main(String[] args) {
        promise2();
        promise3();
        promise4();
        promise5();
        promise6();
        promise7();
        promise8();
        promise9();
        promise10();
        promise11And12();
        promise13();
        promise15();
        promise17To20();
        whatOnlyAsks();
        EXPECT.finish();
    }

    // ---- scenes

    private static LeaderRows make(Scene scene) {
        LeaderRows x = new LeaderRows();
        if (scene == NEW) {
            return x;
        }
        for (int node : new int[] {1, 4, 6, 9, 11}) {
            x.weight(node, node);
            x.deposit(node, 1000);
        }
        x.term(0, 2);
        Scenes.withholdIn(x, 9);
        Scenes.drawWithout(x, 5);
        x.turn(true);
        x.turn(false);
        x.turn(false);
        x.turn(true);
        x.turn(false);
        x.claim(x.leader(0));
        x.claim(3);
        if (scene == FULL_CLAIM) {
            for (int k = 2; k < 60; k++) {
                x.claim(k % 12);
            }
        }
        if (scene == EMPTY_ROW) {
            for (int node : new int[] {1, 4, 6, 9, 11}) {
                x.weight(node, 0);
            }
            Scenes.drawWithout(x, 5);
        }
        return scene == REST || scene == FULL_CLAIM || scene == EMPTY_ROW ? x : inEpoch(x, scene);
    }

    /** Node 1 and 4 COMMIT, to 51 and 54, 6 and 11 do not, 9 is ASIDE; 4 OPENS; a ROW of 7. */
    private static LeaderRows inEpoch(LeaderRows x, Scene scene) {
        x.begin();
        x.commit(4, x.digest(4, 54));
        x.commit(1, x.digest(1, 51));
        if (scene == COMMITTING) {
            return x;
        }
        x.opening();
        x.open(4, 54);
        if (scene == OPENING) {
            return x;
        }
        x.draw(7);
        x.turn(false);
        x.turn(true);
        for (int k = 2; k < 6 && scene == LAST_TURN; k++) {
            x.turn(false);
        }
        return x;
    }

    /** Goes on from any scene to the end of its EPOCH, and through two more; what each call answers. */
    private static List<Long> later(LeaderRows x) {
        List<Long> answers = new ArrayList<>();
        answers.add((long) x.claim(6));
        answers.add((long) x.check());
        for (int epoch = 0; epoch < 3; epoch++) {
            answers.add((long) x.begin());
            for (int node = 0; node < 12; node++) {
                answers.add((long) x.commit(node, x.digest(node, 50 + node)));
            }
            answers.add((long) x.opening());
            for (int node = 0; node < 12; node++) {
                answers.add((long) x.would(node, 50 + node, true, 30));
                answers.add(node == 6 ? 0L : (long) x.open(node, 50 + node));
            }
            answers.add((long) x.draw(9));
            for (int k = 0; k < 9; k++) {
                answers.add((long) x.turn(k % 3 != epoch));
            }
        }
        answers.addAll(Scenes.seen(x));
        return answers;
    }

    // ---- what is refused

    private static void refused(Scene scene, String call, int answer, ToLongFunction<LeaderRows> made) {
        LeaderRows x = make(scene);
        EXPECT.due(scene + ": " + call, made.applyAsLong(x), answer);
        unchanged(scene, call, made, x);
    }

    private static void unchanged(Scene scene, String call, ToLongFunction<LeaderRows> made, LeaderRows x) {
        EXPECT.holds(scene + ": all that is seen is as it was ahead of " + call,
            Scenes.seen(x).equals(SEEN.computeIfAbsent(scene, s -> Scenes.seen(make(s)))));
        LeaderRows y = make(scene);
        made.applyAsLong(y);
        EXPECT.holds(scene + ": all that comes is as without " + call,
            later(y).equals(LATER.computeIfAbsent(scene, s -> later(make(s)))));
    }

    /** What is BAD is so in every state. */
    private static void bad(String call, ToLongFunction<LeaderRows> made) {
        for (Scene scene : Scene.values()) {
            refused(scene, call, BAD, made);
        }
    }

    private static void not(Scene[] scenes, String call, ToLongFunction<LeaderRows> made) {
        for (Scene scene : scenes) {
            refused(scene, call, NOT, made);
        }
    }

    private static void notInRest(String call, ToLongFunction<LeaderRows> made) {
        not(IN_REST, call, made);
    }

    private static void notInTurns(String call, ToLongFunction<LeaderRows> made) {
        not(IN_TURNS, call, made);
    }

    private static void notBesideRest(String call, ToLongFunction<LeaderRows> made) {
        refused(COMMITTING, call, NOT, made);
        refused(OPENING, call, NOT, made);
        notInTurns(call, made);
    }

    private static void sentenceOfOrder(int promise) {
        EXPECT.sentence("Promise " + promise, "Of several the first one in this order. What is refused changes nothing.");
    }

    private static void promise2() {
        sentenceOfOrder(2);
        for (int node : Scenes.NO_NODES) {
            bad("weight(" + node + ", 5)", x -> x.weight(node, 5));
            bad("weight(" + node + ", 1001)", x -> x.weight(node, 1001));
        }
        for (int w : new int[] {-1, 1001, MIN, MAX}) {
            for (int node : new int[] {0, 4, 9, 11}) {
                bad("weight(" + node + ", " + w + ")", x -> x.weight(node, w));
            }
        }
        for (int w : new int[] {0, 5, 1000}) {
            for (int node : new int[] {0, 4, 9, 11}) {
                notBesideRest("weight(" + node + ", " + w + ")", x -> x.weight(node, w));
            }
        }
    }

    private static void promise3() {
        sentenceOfOrder(3);
        for (int node : Scenes.NO_NODES) {
            bad("deposit(" + node + ", 5)", x -> x.deposit(node, 5));
            bad("deposit(" + node + ", min)", x -> x.deposit(node, Long.MIN_VALUE));
        }
        for (long more : new long[] {-1001, Scenes.MOST_DEPOSIT + 1, Long.MIN_VALUE, Long.MAX_VALUE}) {
            for (int node : new int[] {0, 4, 9, 11}) {
                bad("deposit(" + node + ", " + more + ")", x -> x.deposit(node, more));
            }
        }
        bad("deposit(0, -1)", x -> x.deposit(0, -1));
        for (long more : new long[] {-900, -1, 0, 1, Scenes.MOST_DEPOSIT - 1000}) {
            for (int node : new int[] {4, 9, 11}) {
                notBesideRest("deposit(" + node + ", " + more + ")", x -> x.deposit(node, more));
            }
        }
        notBesideRest("deposit(0, 10^12)", x -> x.deposit(0, Scenes.MOST_DEPOSIT));
    }

    private static void promise4() {
        sentenceOfOrder(4);
        for (int what : new int[] {-1, 4, MIN, MAX}) {
            bad("term(" + what + ", 1)", x -> x.term(what, 1));
            bad("term(" + what + ", 101)", x -> x.term(what, 101));
        }
        for (int what = 0; what < 4; what++) {
            int term = what;
            for (int v : new int[] {what < 2 ? -1 : 0, what < 2 ? 101 : 21, MIN, MAX}) {
                bad("term(" + term + ", " + v + ")", x -> x.term(term, v));
            }
            for (int v : new int[] {1, what < 2 ? 0 : 2, what < 2 ? 100 : 20}) {
                notBesideRest("term(" + term + ", " + v + ")", x -> x.term(term, v));
            }
        }
    }

    private static void promise5() {
        sentenceOfOrder(5);
        notBesideRest("begin()", LeaderRows::begin);
    }

    private static void promise6() {
        sentenceOfOrder(6);
        for (int node : Scenes.NO_NODES) {
            bad("commit(" + node + ", 5)", x -> x.commit(node, 5));
        }
        for (int node : new int[] {0, 1, 4, 6, 9, 11}) {
            notInRest("commit(" + node + ", 5)", x -> x.commit(node, 5));
            refused(OPENING, "commit(" + node + ", 5)", NOT, x -> x.commit(node, 5));
            notInTurns("commit(" + node + ", 5)", x -> x.commit(node, 5));
        }
        refused(COMMITTING, "commit(0, 5), no member", NOT, x -> x.commit(0, 5));
        refused(COMMITTING, "commit(9, 5), aside", NOT, x -> x.commit(9, 5));
        refused(COMMITTING, "commit(4, 5), it did", NOT, x -> x.commit(4, 5));
        refused(COMMITTING, "commit(4, the same), it did", NOT, x -> x.commit(4, x.digest(4, 54)));
        refused(COMMITTING, "commit(1, 5), it did", NOT, x -> x.commit(1, 5));
    }

    private static void promise7() {
        sentenceOfOrder(7);
        notInRest("opening()", LeaderRows::opening);
        refused(OPENING, "opening()", NOT, LeaderRows::opening);
        notInTurns("opening()", LeaderRows::opening);
    }

    private static void promise8() {
        sentenceOfOrder(8);
        for (int node : Scenes.NO_NODES) {
            bad("open(" + node + ", 54)", x -> x.open(node, 54));
        }
        for (int node : new int[] {0, 1, 4, 6, 9, 11}) {
            notInRest("open(" + node + ", 50 + node)", x -> x.open(node, 50 + node));
            refused(COMMITTING, "open(" + node + ", 50 + node)", NOT, x -> x.open(node, 50 + node));
            notInTurns("open(" + node + ", 50 + node)", x -> x.open(node, 50 + node));
        }
        refused(OPENING, "open(0, 0), no member", NOT, x -> x.open(0, 0));
        refused(OPENING, "open(6, 56), did not commit", NOT, x -> x.open(6, 56));
        refused(OPENING, "open(9, 59), aside", NOT, x -> x.open(9, 59));
        refused(OPENING, "open(4, 54), did open", NOT, x -> x.open(4, 54));
        refused(OPENING, "open(4, 55), did open", NOT, x -> x.open(4, 55));
        refused(OPENING, "open(1, 54), another number", NOT, x -> x.open(1, 54));
        refused(OPENING, "open(1, 0), another number", NOT, x -> x.open(1, 0));
    }

    private static void promise9() {
        sentenceOfOrder(9);
        for (int turns : new int[] {0, -1, 61, MIN, MAX}) {
            bad("draw(" + turns + ")", x -> x.draw(turns));
        }
        for (int turns : new int[] {1, 7, 60}) {
            notInRest("draw(" + turns + ")", x -> x.draw(turns));
            refused(COMMITTING, "draw(" + turns + ")", NOT, x -> x.draw(turns));
            notInTurns("draw(" + turns + ")", x -> x.draw(turns));
        }
    }

    private static void promise10() {
        sentenceOfOrder(10);
        for (boolean done : new boolean[] {true, false}) {
            notInRest("turn(" + done + ")", x -> x.turn(done));
            refused(COMMITTING, "turn(" + done + ")", NOT, x -> x.turn(done));
            refused(OPENING, "turn(" + done + ")", NOT, x -> x.turn(done));
        }
    }

    private static void promise11And12() {
        for (int k : new int[] {-1, -60, MIN}) {
            sentenceOfOrder(11);
            bad("leader(" + k + ")", x -> x.leader(k));
            sentenceOfOrder(12);
            bad("drawn(" + k + ")", x -> x.drawn(k));
        }
        for (Scene scene : Scene.values()) {
            int length = make(scene).told(2);
            for (int k : new int[] {length, length + 1, 60, MAX}) {
                sentenceOfOrder(11);
                refused(scene, "leader(" + k + ")", NONE, x -> x.leader(k));
                sentenceOfOrder(12);
                refused(scene, "drawn(" + k + ")", NONE, x -> x.drawn(k));
            }
        }
    }

    private static void promise13() {
        sentenceOfOrder(13);
        for (int node : Scenes.NO_NODES) {
            bad("claim(" + node + ")", x -> x.claim(node));
        }
        for (int node = 0; node < 12; node++) {
            int one = node;
            refused(FULL_CLAIM, "claim(" + one + ")", NOT, x -> x.claim(one));
        }
        EXPECT.due("the full claim is held against its row", make(FULL_CLAIM).check(), 1);
    }

    private static void promise15() {
        sentenceOfOrder(15);
        for (boolean opens : new boolean[] {true, false}) {
            for (int node : Scenes.NO_NODES) {
                bad("would(" + node + ", 54, " + opens + ", 5)", x -> x.would(node, 54, opens, 5));
                bad("would(" + node + ", 54, " + opens + ", 0)", x -> x.would(node, 54, opens, 0));
            }
            for (int turns : new int[] {0, -1, 61, MIN, MAX}) {
                for (int node : new int[] {0, 1, 4, 9}) {
                    bad("would(" + node + ", 51, " + opens + ", " + turns + ")", x -> x.would(node, 51, opens, turns));
                }
            }
            for (int node : new int[] {0, 1, 4, 6, 9}) {
                String call = "would(" + node + ", 50 + node, " + opens + ", 5)";
                notInRest(call, x -> x.would(node, 50 + node, opens, 5));
                refused(COMMITTING, call, NOT, x -> x.would(node, 50 + node, opens, 5));
                notInTurns(call, x -> x.would(node, 50 + node, opens, 5));
                if (node != 1) {
                    refused(OPENING, call, NOT, x -> x.would(node, 50 + node, opens, 5));
                }
            }
        }
        refused(OPENING, "would(1, 52, true, 5), another number", NOT, x -> x.would(1, 52, true, 5));
    }

    private static void promise17To20() {
        for (int node : Scenes.NO_NODES) {
            sentenceOfOrder(17);
            for (Scene scene : Scene.values()) {
                refused(scene, "digest(" + node + ", 5)", 0, x -> x.digest(node, 5));
            }
            sentenceOfOrder(18);
            bad("node(" + node + ", 0)", x -> x.node(node, 0));
            bad("node(" + node + ", 9)", x -> x.node(node, 9));
        }
        for (int what : new int[] {-1, 9, MIN, MAX}) {
            sentenceOfOrder(18);
            bad("node(4, " + what + ")", x -> x.node(4, what));
            sentenceOfOrder(20);
            bad("told(" + what + ")", x -> x.told(what));
        }
        sentenceOfOrder(19);
        for (int what : new int[] {-1, 14, MIN, MAX}) {
            for (Scene scene : Scene.values()) {
                refused(scene, "amount(" + what + ")", 0, x -> x.amount(what));
            }
        }
    }

    /** Calls that are not refused, and yet change nothing. */
    private static void whatOnlyAsks() {
        EXPECT.sentence("Promise 15", "Nothing changes");
        for (int turns : new int[] {1, 60}) {
            asks(OPENING, "would(1, 51, true, " + turns + ")", x -> x.would(1, 51, true, turns));
            asks(OPENING, "would(1, 51, false, " + turns + ")", x -> x.would(1, 51, false, turns));
        }
        for (Scene scene : Scene.values()) {
            EXPECT.sentence("Promise 16", "How many of the nodes 0 .. 11 could still OPEN");
            asks(scene, "choices()", LeaderRows::choices);
            EXPECT.sentence("Promise 17", "The DIGEST of a node's NUMBER");
            asks(scene, "digest(4, 55)", x -> x.digest(4, 55));
            EXPECT.sentence("Promise 11", "Who leads TURN k of the latest ROW");
            asks(scene, "leader(0)", x -> x.leader(0));
            EXPECT.sentence("Promise 12", "How many numbers were drawn for TURN k");
            asks(scene, "drawn(0)", x -> x.drawn(0));
        }
    }

    private static void asks(Scene scene, String call, ToLongFunction<LeaderRows> made) {
        LeaderRows x = make(scene);
        EXPECT.holds(scene + ": " + call + " is answered", made.applyAsLong(x) != BAD);
        unchanged(scene, call, made, x);
    }
}
