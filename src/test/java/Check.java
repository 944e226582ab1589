import java.util.Set;
import java.util.TreeSet;

/** Counts the answers that are not the ones that are due, and says which sentence they break. */
final class Check {
    private static final Set<String> SENTENCES = new TreeSet<>();
    private static int wrong = 0;
    private static String sentence = "";

    private Check() {
    }

    /** The words of the document that the checks behind this call hold the class to. */
    static void sentence(String words) {
        SENTENCES.add(words);
        sentence = words;
    }

    static void due(String what, String got, String want) {
        if (!got.equals(want)) {
            wrong++;
            System.out.println("\"" + sentence + "\": " + what + " answered " + got + ", due is " + want);
        }
    }

    static void due(String what, long got, long want) {
        due(what, String.valueOf(got), String.valueOf(want));
    }

    static void due(String what, boolean got, boolean want) {
        due(what, String.valueOf(got), String.valueOf(want));
    }

    static void end() {
        if (wrong != 0) {
            System.out.println(wrong + " answers are not as due");
            System.exit(1);
        }
        System.out.println(SENTENCES.size() + " sentences hold");
    }
}
