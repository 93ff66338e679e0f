import java.util.LinkedHashMap;
import java.util.Map;

/** Counts the answers that are not as due, and prints each, with the sentence that it is held against. */
final class Expect {
    /** Words of the document, and in which section a test looks for them. */
    record Sentence(String where, String words) {
    }

    /** What all tests in this JVM have named, with how many answers were held against it. */
    private static final Map<Sentence, Integer> HELD = new LinkedHashMap<>();

    private final Map<Sentence, Integer> sentences = new LinkedHashMap<>();
    private Sentence sentence;
    private int asked;
    private int wrong;

    static Map<Sentence, Integer> held() {
        return HELD;
    }

    /** Which words of the document the next answers are held against. */
    void sentence(String where, String words) {
        sentence = new Sentence(where, words);
    }

    void due(String call, long got, long want) {
        count();
        if (got != want) {
            wrong++;
            System.out.println(words() + call + " answered " + got + ", due is " + want);
        }
    }

    void holds(String what, boolean is) {
        count();
        if (!is) {
            wrong++;
            System.out.println(words() + "does not hold: " + what);
        }
    }

    boolean allRight() {
        return wrong == 0;
    }

    private void count() {
        asked++;
        if (sentence != null) {
            sentences.merge(sentence, 1, Integer::sum);
            HELD.merge(sentence, 1, Integer::sum);
        }
    }

    private String words() {
        return sentence == null ? "" : sentence.where() + ", \"" + sentence.words() + "\": ";
    }

    /** Promises FROM to TO have each a sentence that answers were held against. */
    void eachPromise(int from, int to) {
        for (int promise = from; promise <= to; promise++) {
            String where = "Promise " + promise;
            holds("a sentence of promise " + promise + " is tested", sentences.keySet().stream().anyMatch(s -> s.where().equals(where)));
        }
    }

    void finish() {
        if (!sentences.isEmpty()) {
            System.out.println(sentences.size() + " sentences");
        }
        System.out.println(wrong == 0 ? asked + " answers are as due" : wrong + " of " + asked + " answers are not as due");
        if (wrong != 0) {
            System.exit(1);
        }
    }
}
