import java.util.ArrayList;
import java.util.LinkedHashMap;
import java.util.List;
import java.util.Map;
import java.util.regex.Matcher;
import java.util.regex.Pattern;

/** Each quote of the sentences' tests stands in the document, and each row that tells an answer is quoted. */
final class QuoteTests {
    private static final Pattern HEADING = Pattern.compile("## (Description|Promise \\d+).*");

    private QuoteTests() {
    }

    static void quotesStandThere() {
        Map<String, String> texts = textsByHeading();
        Sentences.ofDocument().all().forEach((heading, sentences) -> {
            for (Sentences.Sentence one : sentences) {
                Expect.so(heading + " says: " + one.quote(), texts.getOrDefault(heading, "").contains(one.quote()));
            }
        });
    }

    static void rowsAreQuoted() {
        Map<String, List<Sentences.Sentence>> told = Sentences.ofDocument().all();
        int rows = 0;
        for (Map.Entry<String, String> text : textsByHeading().entrySet()) {
            for (String part : partsOf(text.getKey(), text.getValue())) {
                rows++;
                Expect.so(text.getKey() + " has a test of: " + part,
                    isQuoted(part, told.getOrDefault(text.getKey(), List.of())));
            }
        }
        Expect.so("the rows were read", rows > 100);
    }

    private static boolean isQuoted(String part, List<Sentences.Sentence> sentences) {
        for (Sentences.Sentence one : sentences) {
            if (one.quote().contains(part) || part.contains(one.quote()) && one.quote().length() > 8) {
                return true;
            }
        }
        return false;
    }

    /** Of a promise: the parts of its rows "Returns" and "Throws". */
    private static List<String> partsOf(String heading, String text) {
        List<String> parts = new ArrayList<>();
        if (heading.startsWith("Promise")) {
            Matcher row = Pattern.compile("(?<=\n)(Returns|Throws) (.*)\n").matcher(text);
            while (row.find()) {
                for (String part : row.group(2).split("; |, or (?=.* is not)")) {
                    parts.add(part.replaceAll("\\.$", ""));
                }
            }
        }
        return parts;
    }

    /** What stands under each heading, without the marks around code. */
    private static Map<String, String> textsByHeading() {
        Map<String, String> texts = new LinkedHashMap<>();
        String heading = "";
        for (String line : Pages.linesOf(Pages.DOCUMENT)) {
            Matcher m = HEADING.matcher(line);
            if (line.startsWith("## ")) {
                heading = m.matches() ? m.group(1) : "";
            }
            texts.merge(heading, line.replace("`", "") + "\n", String::concat);
        }
        texts.remove("");
        return texts;
    }
}
