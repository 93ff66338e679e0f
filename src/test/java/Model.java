import java.math.BigInteger;
import java.util.ArrayList;
import java.util.List;
import java.util.TreeMap;
import java.util.TreeSet;

/**
 * The document once more, word by word and with the whole library, for LeaderRows to be held against.
 * It shares no code with the class: sets and BigInteger stand where that has flags and longs.
 */
final class Model {
    static final int BAD = -1, NONE = -2, NOT = -3;
    private static final BigInteger TWO_64 = BigInteger.ONE.shiftLeft(64);
    private static final BigInteger G = new BigInteger("9E3779B97F4A7C15", 16);

    private final long[] weights = new long[12], deposits = new long[12], waits = new long[12];
    private final int[] led = new int[12], missed = new int[12], behind = new int[12], aside = new int[12];
    private final int[] terms = {3, 10, 2, 3};
    private final TreeSet<Integer> members = new TreeSet<>();
    private final TreeMap<Integer, Long> commits = new TreeMap<>(), opens = new TreeMap<>();
    private List<Integer> row = new ArrayList<>(), numbers = new ArrayList<>();
    private final List<Integer> claim = new ArrayList<>();
    private long seed, pot, w;
    private int phase, epoch, next;

    private static BigInteger unsigned(long x) {
        BigInteger b = BigInteger.valueOf(x);
        return b.signum() < 0 ? b.add(TWO_64) : b;
    }

    private static BigInteger mix(BigInteger x) {
        BigInteger y = x.mod(TWO_64);
        y = y.xor(y.shiftRight(30)).multiply(new BigInteger("BF58476D1CE4E5B9", 16)).mod(TWO_64);
        y = y.xor(y.shiftRight(27)).multiply(new BigInteger("94D049BB133111EB", 16)).mod(TWO_64);
        return y.xor(y.shiftRight(31));
    }

    private static boolean noNode(int node) {
        return node < 0 || node > 11;
    }

    private static boolean outside(long v, long from, long to) {
        return v < from || v > to;
    }

    long weight(int node, int v) {
        if (noNode(node) || outside(v, 0, 1000)) return BAD;
        if (phase != 0) return NOT;
        long was = weights[node];
        weights[node] = v;
        return was;
    }

    long deposit(int node, long more) {
        if (noNode(node)) return BAD;
        BigInteger then = BigInteger.valueOf(deposits[node]).add(BigInteger.valueOf(more));
        if (then.signum() < 0 || then.compareTo(BigInteger.TEN.pow(12)) > 0) return BAD;
        if (phase != 0) return NOT;
        return deposits[node] = then.longValueExact();
    }

    long term(int what, int v) {
        if (outside(what, 0, 3) || outside(v, what < 2 ? 0 : 1, what < 2 ? 100 : 20)) return BAD;
        if (phase != 0) return NOT;
        int was = terms[what];
        terms[what] = v;
        return was;
    }

    long begin() {
        if (phase != 0) return NOT;
        phase = 1;
        epoch++;
        members.clear();
        commits.clear();
        opens.clear();
        for (int i = 0; i < 12; i++) {
            if (aside[i] != 0 && aside[i] < epoch) aside[i] = 0;
            if (aside[i] == 0 && weights[i] > 0 && deposits[i] > 0) members.add(i);
        }
        return members.size();
    }

    long commit(int node, long digest) {
        if (noNode(node)) return BAD;
        if (phase != 1 || !members.contains(node) || commits.containsKey(node)) return NOT;
        commits.put(node, digest);
        return commits.size();
    }

    long opening() {
        if (phase != 1) return NOT;
        phase = 2;
        return commits.size();
    }

    long open(int node, long number) {
        if (noNode(node)) return BAD;
        if (phase != 2 || !commits.containsKey(node) || opens.containsKey(node)) return NOT;
        if (commits.get(node) != digest(node, number)) return NOT;
        opens.put(node, number);
        return opens.size();
    }

    long draw(int turns) {
        if (outside(turns, 1, 60)) return BAD;
        if (phase != 2) return NOT;
        TreeSet<Integer> electors = electors(opens);
        for (int i : members) {
            if (electors.contains(i)) continue;
            BigInteger lost = BigInteger.valueOf(deposits[i]).multiply(BigInteger.valueOf(terms[1])).divide(BigInteger.valueOf(100));
            deposits[i] -= lost.longValueExact();
            pot += lost.longValueExact();
            aside[i] = epoch + terms[2];
        }
        seed = seedWith(opens);
        w = 0;
        for (int i : electors) w += weights[i];
        row = new ArrayList<>();
        numbers = new ArrayList<>();
        if (electors.isEmpty()) {
            phase = 0;
            return 0;
        }
        makeRow(electors, seed, turns, waits, row, numbers);
        phase = 3;
        next = 0;
        return electors.size();
    }

    private TreeSet<Integer> electors(TreeMap<Integer, Long> opened) {
        TreeSet<Integer> electors = new TreeSet<>(members);
        TreeSet<Integer> withholders = new TreeSet<>(commits.keySet());
        withholders.removeAll(opened.keySet());
        electors.removeAll(withholders);
        return electors;
    }

    private long seedWith(TreeMap<Integer, Long> opened) {
        BigInteger s = mix(unsigned(seed).add(G.multiply(BigInteger.valueOf(epoch))));
        for (int i : opened.keySet()) {
            s = mix(s.xor(unsigned(digest(i, opened.get(i)))).xor(unsigned(opened.get(i))));
        }
        return s.longValue();
    }

    private void makeRow(TreeSet<Integer> electors, long from, int turns, long[] waiting, List<Integer> leaders, List<Integer> draws) {
        BigInteger stream = unsigned(from);
        long sum = 0;
        for (int i : electors) sum += weights[i];
        BigInteger all = BigInteger.valueOf(sum);
        BigInteger bound = TWO_64.divide(all).multiply(all);
        for (int k = 0; k < turns; k++) {
            int who = -1;
            for (int i : electors) {
                boolean overdue = terms[0] > 0 && waiting[i] * weights[i] >= terms[0] * sum;
                if (overdue && (who < 0 || waiting[i] * weights[i] > waiting[who] * weights[who])) who = i;
            }
            int drawn = 0;
            if (who < 0) {
                BigInteger z;
                do {
                    stream = stream.add(G).mod(TWO_64);
                    z = mix(stream);
                    drawn++;
                } while (z.compareTo(bound) >= 0);
                long r = z.mod(all).longValueExact();
                long reached = 0;
                for (int i : electors) {
                    reached += weights[i];
                    if (who < 0 && reached > r) who = i;
                }
            }
            leaders.add(who);
            draws.add(drawn);
            for (int i : electors) waiting[i]++;
            waiting[who] = 0;
        }
    }

    long turn(boolean done) {
        if (phase != 3) return NOT;
        int who = row.get(next);
        if (done) {
            led[who]++;
            behind[who] = 0;
        } else {
            missed[who]++;
            behind[who]++;
            if (behind[who] >= terms[3]) {
                if (aside[who] < epoch + terms[2]) aside[who] = epoch + terms[2];
                behind[who] = 0;
            }
        }
        next++;
        if (next == row.size()) phase = 0;
        return row.size() - next;
    }

    long leader(int k) {
        return k < 0 ? BAD : k >= row.size() ? NONE : row.get(k);
    }

    long drawn(int k) {
        return k < 0 ? BAD : k >= row.size() ? NONE : numbers.get(k);
    }

    long claim(int node) {
        if (noNode(node)) return BAD;
        if (claim.size() == 60) return NOT;
        claim.add(node);
        return claim.size();
    }

    long check() {
        List<Integer> held = new ArrayList<>(claim);
        claim.clear();
        if (held.equals(row)) return NONE;
        int k = 0;
        while (k < held.size() && k < row.size() && held.get(k).equals(row.get(k))) k++;
        return k;
    }

    long would(int node, long number, boolean opening, int turns) {
        if (noNode(node) || outside(turns, 1, 60)) return BAD;
        if (phase != 2 || !commits.containsKey(node) || opens.containsKey(node)) return NOT;
        if (opening && commits.get(node) != digest(node, number)) return NOT;
        TreeMap<Integer, Long> opened = new TreeMap<>(opens);
        if (opening) opened.put(node, number);
        TreeSet<Integer> electors = electors(opened);
        if (electors.isEmpty()) return 0;
        List<Integer> leaders = new ArrayList<>();
        makeRow(electors, seedWith(opened), turns, waits.clone(), leaders, new ArrayList<>());
        return leaders.stream().filter(i -> i == node).count();
    }

    long choices() {
        return phase == 2 ? commits.size() - opens.size() : 0;
    }

    long digest(int node, long number) {
        if (noNode(node)) return 0;
        return mix(mix(unsigned(number)).add(G.multiply(BigInteger.valueOf(node + 1)))).longValue();
    }

    long node(int node, int what) {
        if (noNode(node) || outside(what, 0, 8)) return BAD;
        boolean underWay = phase != 0;
        return switch (what) {
            case 0 -> weights[node];
            case 1 -> waits[node];
            case 2 -> led[node];
            case 3 -> missed[node];
            case 4 -> aside[node];
            case 5 -> underWay && members.contains(node) ? 1 : 0;
            case 6 -> underWay && commits.containsKey(node) ? 1 : 0;
            case 7 -> underWay && opens.containsKey(node) ? 1 : 0;
            default -> behind[node];
        };
    }

    long amount(int what) {
        return what == 0 ? seed : what == 1 ? pot : outside(what, 2, 13) ? 0 : deposits[what - 2];
    }

    long told(int what) {
        if (outside(what, 0, 8)) return BAD;
        return switch (what) {
            case 0 -> phase;
            case 1 -> epoch;
            case 2 -> row.size();
            case 3 -> phase == 3 ? next : 0;
            case 4 -> w;
            default -> terms[what - 5];
        };
    }
}
