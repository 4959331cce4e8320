import java.util.ArrayList;
import java.util.LinkedHashMap;
import java.util.List;
import java.util.Map;

/** Tests of single sentences of the document: each quotes the words that it tests, under their heading. */
final class Sentences {
    private final Map<String, List<Sentence>> byHeading = new LinkedHashMap<>();
    private String heading = "";

    /** What is told from here on stands under this heading: "Description", or "Promise 2" and so on. */
    void under(String newHeading) {
        heading = newHeading;
        byHeading.computeIfAbsent(heading, h -> new ArrayList<>());
    }

    /** The words of the document, which case of them is tested, and the test. */
    void that(String quote, String which, Runnable test) {
        byHeading.get(heading).add(new Sentence(quote, which, test));
    }

    Map<String, List<Sentence>> all() {
        return byHeading;
    }

    static Sentences ofDocument() {
        Sentences told = new Sentences();
        DescriptionSentences.tell(told);
        FormActSentences.tell(told);
        DividingSentences.tell(told);
        RollAndRowSentences.tell(told);
        AskedSentences.tell(told);
        WholeSentences.tell(told);
        return told;
    }

    record Sentence(String quote, String which, Runnable test) {
    }
}
