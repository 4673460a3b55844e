import java.util.function.Consumer;
import java.util.function.IntPredicate;

/** Counts the answers that are not as due, and ends a test with exit code 1 if there was one. */
final class Checks {
    private String sentence = "";
    private int sentences = 0;
    private int asDue = 0;
    private int wrong = 0;

    /** One test for one sentence of the document; ahead of it its promise's number or its term's. */
    void sentence(String words, Consumer<Checks> test) {
        sentence = words;
        sentences++;
        int before = asDue + wrong;
        test.accept(this);
        due("answers looked at", asDue + wrong > before, true);
    }

    void due(String call, long got, long want) {
        if (got == want) {
            asDue++;
        } else {
            wrong++;
            System.out.println(sentence);
            System.out.println("    " + call + " answered " + got + ", due is " + want);
        }
    }

    void due(String call, boolean got, boolean want) {
        due(call, got ? 1 : 0, want ? 1 : 0);
    }

    /** The least number and the most are taken; those next to them and the farthest are not. */
    void bounds(String call, int least, int most, IntPredicate isTaken) {
        for (int number : new int[] {least, most}) {
            due(call + " of " + number, isTaken.test(number), true);
        }
        for (int number : new int[] {least - 1, most + 1, Integer.MIN_VALUE, Integer.MAX_VALUE}) {
            due(call + " of " + number, isTaken.test(number), false);
        }
    }

    void end() {
        System.out.println(sentences + " sentences, " + asDue + " answers as due, " + wrong + " not");
        if (wrong != 0) {
            System.exit(1);
        }
    }
}
