import java.io.IOException;
import java.nio.file.Files;
import java.nio.file.Path;
import java.util.ArrayList;
import java.util.LinkedHashMap;
import java.util.List;
import java.util.Map;
import java.util.regex.Matcher;
import java.util.regex.Pattern;

/**
 * Each sentence of the document that names a boundary case has a test of its own, which quotes it. Here all of these
 * are run; then the quotes are looked up in the document, and its sentences that no test quotes are told as wrong.
 */
public final class BoundaryTests extends Checks {
    private static final Path DOCUMENT = Path.of("../shared/DOC.md");

    /** The promises and the terms, each with what the document says there, without its signs for code. */
    private static Map<String, String> sections(String document) {
        Map<String, String> sections = new LinkedHashMap<>();
        Matcher heads = Pattern.compile("(?m)^(?:## ([^:\n]*).*|(\\d)\\. [A-Z]\\w+)$").matcher(document);
        String section = "";
        int start = 0;
        while (heads.find()) {
            sections.merge(section, document.substring(start, heads.start()), String::concat);
            section = heads.group(1) != null ? heads.group(1) : "Terms " + heads.group(2);
            start = heads.end();
        }
        sections.merge(section, document.substring(start), String::concat);
        sections.replaceAll((name, text) -> plain(text));
        return sections;
    }

    private static String plain(String text) {
        return text.replace("`", "").replaceAll("[ \t]+", " ");
    }

    private static void lookUpQuotes(Map<String, String> sections) {
        for (Boundaries.Quote quote : Boundaries.quotes()) {
            String text = sections.getOrDefault(quote.section(), "");
            about = quote.section();
            is("'" + quote.words() + "' stands there", (Object) true, (Object) text.contains(plain(quote.words())));
        }
    }

    private static void lookUpSentences(Map<String, String> sections) {
        for (Map.Entry<String, String> section : sections.entrySet()) {
            if (section.getKey().startsWith("Promise") || section.getKey().startsWith("Terms ")) {
                about = section.getKey();
                for (String sentence : sentences(section.getValue())) {
                    boolean isQuoted = isQuoted(section.getKey(), sentence);
                    is("'" + sentence + "' is quoted by a test", (Object) true, (Object) isQuoted);
                }
            }
        }
    }

    /** That a call is a question is held by the test of what is a change; the heads of the interface promise nothing. */
    private static List<String> sentences(String text) {
        List<String> sentences = new ArrayList<>();
        for (String line : text.split("\n")) {
            for (String sentence : line.trim().split("(?<=\\.) ")) {
                boolean isNone = sentence.isEmpty() || sentence.equals("(A question.)")
                        || line.startsWith("Ahead of the calls");
                if (!isNone) {
                    sentences.add(sentence);
                }
            }
        }
        return sentences;
    }

    private static boolean isQuoted(String section, String sentence) {
        for (Boundaries.Quote quote : Boundaries.quotes()) {
            String words = plain(quote.words());
            if (quote.section().equals(section) && (sentence.contains(words) || words.contains(sentence))) {
                return true;
            }
        }
        return false;
    }

    public static void main(String[] args) throws IOException {
        TapeBoundaries.all();
        ScratchBoundaries.all();
        DrawerBoundaries.all();
        HandBoundaries.all();
        LightBoundaries.all();
        ExchangeBoundaries.all();
        CatalogueBoundaries.all();
        UndoBoundaries.all();
        Map<String, String> sections = sections(Files.readString(DOCUMENT));
        lookUpQuotes(sections);
        lookUpSentences(sections);
        endTests();
    }
}
