import java.io.IOException;
import java.nio.file.Files;
import java.nio.file.Path;
import java.util.ArrayList;
import java.util.List;
import java.util.Map;
import java.util.TreeMap;

/** Holds what the tests quote against ../shared/DOC.md: each sentence has a test, and each quote is in its place. */
final class DocumentTests extends Promises {
    private static final Path DOCUMENT = Path.of("../shared/DOC.md");
    private static final int TERMS = 0;
    /** Nothing is asked there. */
    private static final String FREE = "what later calls answer is free.";

    private final Check check;

    DocumentTests(Check check) {
        super(check);
        this.check = check;
    }

    @Override
    void run() {
        begin("DOC.md");
        if (!Files.exists(DOCUMENT)) {
            System.out.println("DOC.md is not there: which sentences have a test was not looked at");
            return;
        }
        Map<Integer, String> sections = sections();
        due("promises", () -> sections.size() - 1, 41);
        Map<Integer, StringBuilder> left = new TreeMap<>();
        sections.forEach((promise, text) -> left.put(promise, new StringBuilder(text)));
        for (String quote : check.quotes()) {
            int space = quote.indexOf(' ');
            int promise = Integer.parseInt(quote.substring(0, space));
            due("a quote is in the document: " + quote,
                    () -> strike(sections.get(promise), quote.substring(space + 1), left.get(promise)), true);
        }
        left.forEach((promise, text) -> due("words of promise " + promise + " without a test",
                () -> words(text), List.of()));
    }

    /** The terms and each promise, without headings, signatures, marks and line breaks. */
    private static Map<Integer, String> sections() {
        Map<Integer, StringBuilder> found = new TreeMap<>();
        int section = -1;
        for (String line : lines()) {
            if (line.startsWith("## ")) {
                section = sectionOf(line);
            } else if (section == TERMS && !line.startsWith("An orchestra's year") || section > TERMS) {
                String told = line.replaceFirst("^`.*?\\)( throws [A-Za-z, ]*)?`: ", "").replaceFirst("^- ", "");
                found.computeIfAbsent(section, none -> new StringBuilder()).append(told.replace("`", "")).append(' ');
            }
        }
        Map<Integer, String> sections = new TreeMap<>();
        found.forEach((promise, text) -> sections.put(promise, text.toString().replaceAll("\\s+", " ").replace(FREE, "")));
        return sections;
    }

    private static int sectionOf(String heading) {
        if (heading.startsWith("## Promise ")) {
            return Integer.parseInt(heading.replaceAll("[^0-9]*([0-9]+):.*", "$1"));
        }
        return heading.equals("## Terms") ? TERMS : heading.equals("## What it is") ? TERMS : -1;
    }

    private static List<String> lines() {
        try {
            return Files.readAllLines(DOCUMENT);
        } catch (IOException unread) {
            throw new Error(unread);
        }
    }

    /** Whether the quote is in the text; strikes it out wherever it is. */
    private static boolean strike(String text, String quote, StringBuilder left) {
        int at = text.indexOf(quote);
        boolean isThere = at >= 0;
        while (at >= 0) {
            left.replace(at, at + quote.length(), " ".repeat(quote.length()));
            at = text.indexOf(quote, at + 1);
        }
        return isThere;
    }

    private static List<String> words(StringBuilder text) {
        List<String> words = new ArrayList<>();
        for (String word : text.toString().split("[^A-Za-z0-9']+")) {
            if (!word.isEmpty()) {
                words.add(word);
            }
        }
        return words;
    }
}
