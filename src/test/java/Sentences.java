import java.util.ArrayList;
import java.util.List;

/** Tests that are called by the sentence of the document that they try. */
abstract class Sentences extends Answers {
    private static final List<String> TRIED = new ArrayList<>();
    private static String place = "";

    /** All sentences that follow must stand in this text. */
    static void within(List<String> text) {
        place = String.join("\n", text);
    }

    static void sentence(String words, Runnable test) {
        sentences(test, words);
    }

    /** One test of sentences that belong together. */
    static void sentences(Runnable test, String... all) {
        for (String words : all) {
            require(place.contains(words), "the document does not say there: " + words);
            TRIED.add(words);
        }
        under(String.join(" ", all));
        test.run();
        under("");
    }

    /** What is left of a text without the sentences that are tried. */
    static String untried(List<String> text) {
        String left = String.join("\n", text);
        for (String words : TRIED) {
            left = left.replace(words, "");
        }
        return left;
    }
}
