import java.nio.file.Files;
import java.nio.file.Path;
import java.util.ArrayList;
import java.util.List;
import java.util.regex.Matcher;
import java.util.regex.Pattern;

/**
 * Holds the sentences that tests have named by Check.sentence() against the document, from its first line to its last:
 * each of them must stand there, and each sentence of 'Terms' and of a promise must be named.
 */
final class Sentences {
    private static final Pattern FIRST_LINE = Pattern.compile("[\\w ]+\\([\\w, ]*\\)(?: throws [\\w, ]+)?: (.*)");

    private Sentences() {
    }

    static void check() throws Exception {
        Check.part("Sentences");
        String document = Files.readString(Path.of("../shared/DOC.md")).replace("`", "");
        Matcher sections = Pattern.compile("(?ms)^## Promise (\\d+): (.*?)(?=^## |\\z)").matcher(document);
        int promises = 0;
        while (sections.find()) {
            promises++;
            checkPromise(Integer.parseInt(sections.group(1)), sections.group(2));
        }
        Check.due("promises of the document", promises, 63);
        checkHeadings(document);
        Matcher terms = Pattern.compile("(?ms)^## Terms$(.*?)^## Promise 1:").matcher(document);
        Check.due("the document has 'Terms'", terms.find(), true);
        checkTerms(terms.group(1));
    }

    private static String plain(String text) {
        return text.replaceAll("\\s+", " ").trim();
    }

    /** What stands beside 'Terms' and the promises has no sentence that a call could break. */
    private static void checkHeadings(String document) {
        StringBuilder headings = new StringBuilder();
        Matcher heading = Pattern.compile("(?m)^## (?!Promise )(.*)$").matcher(document);
        while (heading.find()) {
            headings.append(heading.group(1)).append(", ");
        }
        Check.due("headings of the document", headings.toString(), "What it is, The public face, Terms, Not promised, ");
    }

    private static void checkPromise(int promise, String section) {
        checkSaid(promise, section);
        String[] lines = section.split("\n");
        int firstLines = 0;
        // the line 0 is the promise's name
        for (int index = 1; index < lines.length; index++) {
            Matcher first = FIRST_LINE.matcher(lines[index]);
            if (first.matches()) {
                firstLines++;
                for (String sentence : first.group(1).split("(?<=\\.) (?=[A-Z])")) {
                    checkNamed(promise, sentence);
                }
            } else if (lines[index].startsWith("- ")) {
                checkNamed(promise, lines[index].substring(2));
            } else if (!lines[index].isEmpty()) {
                checkNamed(promise, lines[index]);
            }
        }
        Check.due("the first line of the promise " + promise, firstLines, 1);
    }

    private static void checkSaid(int promise, String section) {
        for (String words : Check.said(promise)) {
            Check.due("the document says of the promise " + promise + ": " + words, plain(section).contains(words), true);
        }
    }

    private static void checkNamed(int promise, String sentence) {
        boolean named = false;
        for (String words : Check.said(promise)) {
            named = named || words.contains(plain(sentence)) || plain(sentence).contains(words);
        }
        Check.due("a test names of the promise " + promise + ": " + sentence, named, true);
    }

    private static void checkTerms(String terms) {
        checkSaid(0, terms);
        List<String> found = new ArrayList<>();
        for (String line : terms.split("\n")) {
            // what the interface is headed by is no promise
            if (!line.startsWith("#") && !line.startsWith("Ahead of the calls")) {
                for (String sentence : line.split("(?<=\\.\\)?) (?=[A-Z(])")) {
                    if (sentence.endsWith(".") || sentence.endsWith(".)")) {
                        found.add(sentence);
                    }
                }
            }
        }
        Check.due("sentences of 'Terms' were found", found.size() > 30, true);
        for (String sentence : found) {
            checkNamed(0, sentence);
        }
    }
}
