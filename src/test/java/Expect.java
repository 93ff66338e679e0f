import java.util.LinkedHashSet;
import java.util.Set;

/** Counts the answers that are not as due, and prints each, with the sentence that it is held against. */
final class Expect {
    private final Set<String> sentences = new LinkedHashSet<>();
    private String sentence = "";
    private int asked;
    private int wrong;

    /** Which words of the document the next answers are held against. */
    void sentence(String where, String words) {
        sentence = where + ", \"" + words + "\": ";
        sentences.add(sentence);
    }

    void due(String call, long got, long want) {
        asked++;
        if (got != want) {
            wrong++;
            System.out.println(sentence + call + " answered " + got + ", due is " + want);
        }
    }

    void holds(String what, boolean is) {
        asked++;
        if (!is) {
            wrong++;
            System.out.println(sentence + "does not hold: " + what);
        }
    }

    boolean allRight() {
        return wrong == 0;
    }

    /** Promises FROM to TO have each a sentence that was asked for. */
    void eachPromise(int from, int to) {
        for (int promise = from; promise <= to; promise++) {
            String where = "Promise " + promise + ", ";
            holds("a sentence of promise " + promise + " is tested", sentences.stream().anyMatch(s -> s.startsWith(where)));
        }
    }

    void finish() {
        if (!sentences.isEmpty()) {
            System.out.println(sentences.size() + " sentences");
        }
        System.out.println(wrong == 0 ? asked + " answers are as due" : wrong + " of " + asked + " answers are not as due");
        if (wrong != 0) {
            System.exit(1);
        }
    }
}
