/**
 * Who leads when: rows of leaders drawn from numbers to which all commit before any is opened.
 * Words in capitals are the document's own.
 */
public final class LeaderRows {
    public static final int BAD = -1, NONE = -2, NOT = -3;

    private static final int NODES = 12;
    private static final int MOST_WEIGHT = 1000;
    private static final long MOST_DEPOSIT = 1_000_000_000_000L;
    private static final int MOST_TURNS = 60;

    private static final int REST = 0, COMMITTING = 1, OPENING = 2, TURNS = 3;

    private static final int FACTOR = 0, PENALTY = 1, AWAY = 2, PATIENCE = 3, TERMS = 4;
    private static final int[] LEAST_OF_TERM = {0, 0, 1, 1};
    private static final int[] MOST_OF_TERM = {100, 100, 20, 20};

    private static final long G = 0x9E3779B97F4A7C15L;

    private final Node[] nodes;
    private final int[] terms;
    private final Electors electors;
    private final Row row;
    private final int[] claimed;
    private int claims;
    private int phase;
    private int epoch;
    private int next;
    private long seed;
    private long pot;

    public LeaderRows() {
        nodes = new Node[NODES];
        for (int i = 0; i < NODES; i++) {
            nodes[i] = new Node();
        }
        terms = new int[] {3, 10, 2, 3};
        electors = new Electors();
        row = new Row();
        claimed = new int[MOST_TURNS];
    }

    // ---- in rest

    public int weight(int node, int w) {
        if (!isNode(node) || w < 0 || w > MOST_WEIGHT) {
            return BAD;
        }
        if (phase != REST) {
            return NOT;
        }
        int before = nodes[node].weight;
        nodes[node].weight = w;
        return before;
    }

    public long deposit(int node, long more) {
        if (!isNode(node)) {
            return BAD;
        }
        long held = nodes[node].deposit;
        // Held against what is left, since the sum itself could wrap.
        if (more < -held || more > MOST_DEPOSIT - held) {
            return BAD;
        }
        if (phase != REST) {
            return NOT;
        }
        nodes[node].deposit = held + more;
        return held + more;
    }

    public int term(int what, int v) {
        if (what < 0 || what >= TERMS || v < LEAST_OF_TERM[what] || v > MOST_OF_TERM[what]) {
            return BAD;
        }
        if (phase != REST) {
            return NOT;
        }
        int before = terms[what];
        terms[what] = v;
        return before;
    }

    // ---- an epoch

    public int begin() {
        if (phase != REST) {
            return NOT;
        }
        phase = COMMITTING;
        epoch++;
        int members = 0;
        for (int i = 0; i < NODES; i++) {
            nodes[i].enterEpoch(epoch);
            if (nodes[i].member) {
                members++;
            }
        }
        return members;
    }

    public int commit(int node, long digest) {
        if (!isNode(node)) {
            return BAD;
        }
        Node one = nodes[node];
        if (phase != COMMITTING || !one.member || one.committed) {
            return NOT;
        }
        one.committed = true;
        one.digest = digest;
        return countCommitted();
    }

    public int opening() {
        if (phase != COMMITTING) {
            return NOT;
        }
        phase = OPENING;
        return countCommitted();
    }

    public int open(int node, long number) {
        if (!isNode(node)) {
            return BAD;
        }
        Node one = nodes[node];
        if (phase != OPENING || !one.withholds() || one.digest != digestOf(node, number)) {
            return NOT;
        }
        one.opened = true;
        one.number = number;
        return countOpened();
    }

    public int draw(int turns) {
        if (!isLengthOfRow(turns)) {
            return BAD;
        }
        if (phase != OPENING) {
            return NOT;
        }
        seed = seedOfDraw(NONE, 0);
        electors.gather(nodes, NONE, terms[FACTOR], seed);
        fineWithholders();
        row.clear(electors.sum);
        if (electors.count == 0) {
            endEpoch();
            return 0;
        }
        for (int k = 0; k < turns; k++) {
            int who = electors.nextLeader();
            row.append(who, electors.numbers);
        }
        keepWaits();
        phase = TURNS;
        return electors.count;
    }

    public int turn(boolean done) {
        int who = phase == TURNS ? row.leaderOf(next) : NONE;
        if (!isNode(who)) {
            return NOT;
        }
        if (done) {
            nodes[who].lead();
        } else {
            nodes[who].miss(terms[PATIENCE], epoch + terms[AWAY]);
        }
        next++;
        int left = row.length - next;
        if (left <= 0) {
            endEpoch();
        }
        return left;
    }

    // ---- the latest row

    public int leader(int k) {
        return k < 0 ? BAD : row.leaderOf(k);
    }

    public int drawn(int k) {
        return k < 0 ? BAD : row.numbersOf(k);
    }

    public int claim(int node) {
        if (!isNode(node)) {
            return BAD;
        }
        if (claims >= MOST_TURNS) {
            return NOT;
        }
        claimed[claims] = node;
        claims++;
        return claims;
    }

    public int check() {
        int unlike = firstUnlike();
        claims = 0;
        return unlike;
    }

    // ---- what it would change

    public int would(int node, long number, boolean opens, int turns) {
        if (!isNode(node) || !isLengthOfRow(turns)) {
            return BAD;
        }
        Node one = nodes[node];
        if (phase != OPENING || !one.withholds()) {
            return NOT;
        }
        if (opens && one.digest != digestOf(node, number)) {
            return NOT;
        }
        int opener = opens ? node : NONE;
        electors.gather(nodes, opener, terms[FACTOR], seedOfDraw(opener, number));
        int leads = 0;
        for (int k = 0; k < turns; k++) {
            if (electors.nextLeader() == node) {
                leads++;
            }
        }
        return leads;
    }

    public int choices() {
        return phase == OPENING ? countCommitted() - countOpened() : 0;
    }

    // ---- what is told

    public long digest(int node, long number) {
        return isNode(node) ? digestOf(node, number) : 0;
    }

    public int node(int node, int what) {
        return isNode(node) ? nodes[node].tell(what) : BAD;
    }

    public long amount(int what) {
        if (what == 0) {
            return seed;
        }
        if (what == 1) {
            return pot;
        }
        return what >= 2 && what < 2 + NODES ? nodes[what - 2].deposit : 0;
    }

    public int told(int what) {
        switch (what) {
            case 0:
                return phase;
            case 1:
                return epoch;
            case 2:
                return row.length;
            case 3:
                return next;
            case 4:
                return row.sum;
            default:
                return what >= 5 && what < 5 + TERMS ? terms[what - 5] : BAD;
        }
    }

    // ---- helpers

    private static boolean isNode(int node) {
        return node >= 0 && node < NODES;
    }

    private static boolean isLengthOfRow(int turns) {
        return turns >= 1 && turns <= MOST_TURNS;
    }

    private static long mix(long x) {
        long y = (x ^ x >>> 30) * 0xBF58476D1CE4E5B9L;
        y = (y ^ y >>> 27) * 0x94D049BB133111EBL;
        return y ^ y >>> 31;
    }

    private static long digestOf(int node, long number) {
        return mix(mix(number) + (node + 1) * G);
    }

    private int countCommitted() {
        int count = 0;
        for (int i = 0; i < NODES; i++) {
            if (nodes[i].committed) {
                count++;
            }
        }
        return count;
    }

    private int countOpened() {
        int count = 0;
        for (int i = 0; i < NODES; i++) {
            if (nodes[i].opened) {
                count++;
            }
        }
        return count;
    }

    /** The SEED of a draw made now, as if the opener (NONE: nobody) had OPENED its number too. */
    private long seedOfDraw(int opener, long number) {
        long s = mix(seed + epoch * G);
        for (int i = 0; i < NODES; i++) {
            Node one = nodes[i];
            if (one.opened || i == opener) {
                s = mix(s ^ one.digest ^ (i == opener ? number : one.number));
            }
        }
        return s;
    }

    private void fineWithholders() {
        for (int i = 0; i < NODES; i++) {
            if (nodes[i].withholds()) {
                pot += nodes[i].fine(terms[PENALTY]);
                nodes[i].putAside(epoch + terms[AWAY]);
            }
        }
    }

    private void keepWaits() {
        for (int i = 0; i < NODES; i++) {
            nodes[i].wait = electors.waits[i];
        }
    }

    private void endEpoch() {
        phase = REST;
        next = 0;
        for (int i = 0; i < NODES; i++) {
            nodes[i].leaveEpoch();
        }
    }

    private int firstUnlike() {
        int both = Math.min(claims, row.length);
        for (int k = 0; k < both; k++) {
            if (claimed[k] != row.leaders[k]) {
                return k;
            }
        }
        return claims == row.length ? NONE : both;
    }

    private static final class Node {
        int weight;
        long deposit;
        int wait;
        int led;
        int missed;
        int missedInOne;
        int aside;
        boolean member;
        boolean committed;
        boolean opened;
        long digest;
        long number;

        void enterEpoch(int epoch) {
            if (aside < epoch) {
                aside = 0;
            }
            member = aside == 0 && weight > 0 && deposit > 0;
        }

        void leaveEpoch() {
            member = false;
            committed = false;
            opened = false;
        }

        boolean withholds() {
            return committed && !opened;
        }

        long fine(int hundredths) {
            long lost = deposit * hundredths / 100;
            deposit -= lost;
            return lost;
        }

        void putAside(int upTo) {
            aside = Math.max(aside, upTo);
        }

        void lead() {
            led++;
            missedInOne = 0;
        }

        void miss(int patience, int upTo) {
            missed++;
            missedInOne++;
            if (missedInOne >= patience) {
                putAside(upTo);
                missedInOne = 0;
            }
        }

        int tell(int what) {
            switch (what) {
                case 0:
                    return weight;
                case 1:
                    return wait;
                case 2:
                    return led;
                case 3:
                    return missed;
                case 4:
                    return aside;
                case 5:
                    return member ? 1 : 0;
                case 6:
                    return committed ? 1 : 0;
                case 7:
                    return opened ? 1 : 0;
                case 8:
                    return missedInOne;
                default:
                    return BAD;
            }
        }
    }

    /** The latest ROW; it stays when its EPOCH is over. */
    private static final class Row {
        final int[] leaders = new int[MOST_TURNS];
        final int[] numbers = new int[MOST_TURNS];
        int length;
        int sum;

        void clear(int sumOfWeights) {
            length = 0;
            sum = sumOfWeights;
        }

        void append(int who, int numbersDrawn) {
            if (length < MOST_TURNS) {
                leaders[length] = who;
                numbers[length] = numbersDrawn;
                length++;
            }
        }

        boolean has(int k) {
            return k >= 0 && k < length;
        }

        int leaderOf(int k) {
            return has(k) ? leaders[k] : NONE;
        }

        int numbersOf(int k) {
            return has(k) ? numbers[k] : NONE;
        }
    }

    /** Those who can lead, with WAITS of their own: a ROW that is only imagined changes no node. */
    private static final class Electors {
        /** The bound that the rules ask of each loop: a number is refused once in 10^15 draws. */
        static final int MOST_NUMBERS = 1_000_000;

        /** 0 stands for a node that is no ELECTOR. */
        final int[] weights = new int[NODES];
        final int[] waits = new int[NODES];
        int count;
        int sum;
        int factor;
        long stream;
        /** How many were drawn for the latest TURN. */
        int numbers;

        /** Makes ready for a ROW drawn now, as if the opener (NONE: nobody) had OPENED too. */
        void gather(Node[] nodes, int opener, int factorNow, long streamAhead) {
            count = 0;
            sum = 0;
            factor = factorNow;
            stream = streamAhead;
            for (int i = 0; i < NODES; i++) {
                Node one = nodes[i];
                boolean elects = one.member && (!one.withholds() || i == opener);
                weights[i] = elects ? one.weight : 0;
                waits[i] = one.wait;
                sum += weights[i];
                if (elects) {
                    count++;
                }
            }
        }

        int nextLeader() {
            numbers = 0;
            int who = mostOverdue();
            if (who == NONE) {
                who = holderOf(drawBelowSum());
            }
            passTurn(who);
            return who;
        }

        int mostOverdue() {
            if (factor <= 0) {
                return NONE;
            }
            int who = NONE;
            // One below the bar, so that the first to reach it is taken, and then only greater ones.
            long most = (long) factor * sum - 1;
            for (int i = 0; i < NODES; i++) {
                long due = (long) waits[i] * weights[i];
                if (weights[i] > 0 && due > most) {
                    who = i;
                    most = due;
                }
            }
            return who;
        }

        long drawBelowSum() {
            // 2^64 - sum leaves what 2^64 leaves, and fits.
            long tail = remainderUnsigned(-sum, sum);
            long z = 0;
            boolean used = false;
            while (!used && numbers < MOST_NUMBERS) {
                stream += G;
                numbers++;
                z = mix(stream);
                // The last 'tail' numbers below 2^64 are, with a sign, -tail .. -1.
                used = z >= 0 || z < -tail;
            }
            return remainderUnsigned(z, sum);
        }

        static long remainderUnsigned(long z, int divisor) {
            if (divisor <= 0) {
                return 0;
            }
            // Halved first, since % takes its left side with a sign.
            return ((z >>> 1) % divisor * 2 + (z & 1)) % divisor;
        }

        int holderOf(long r) {
            long reached = 0;
            for (int i = 0; i < NODES; i++) {
                reached += weights[i];
                if (reached > r) {
                    return i;
                }
            }
            return NONE;
        }

        void passTurn(int who) {
            for (int i = 0; i < NODES; i++) {
                if (weights[i] > 0) {
                    waits[i] = i == who ? 0 : waits[i] + 1;
                }
            }
        }
    }
}
