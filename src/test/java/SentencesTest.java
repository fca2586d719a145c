import java.io.IOException;
import java.nio.file.DirectoryStream;
import java.nio.file.Files;
import java.nio.file.Path;
import java.util.ArrayList;
import java.util.List;
import java.util.Map;
import java.util.TreeMap;
import java.util.regex.Matcher;
import java.util.regex.Pattern;

/**
 * Each word of the promises and of 'Terms' is quoted by a test, so that no sentence is left out; that the
 * quotes stand in the document, Due sees.
 */
public final class SentencesTest {
    private static final Path TESTS = Path.of("src/test/java");
    private static final Pattern STRING = Pattern.compile("\"((?:[^\"\\\\]|\\\\.)*)\"");
    private static final Pattern QUOTE = Pattern.compile("\\bdue\\.(promise|term)\\((\\d+),\\s*(" + STRING.pattern()
        + "(?:\\s*\\+\\s*" + STRING.pattern() + ")*)\\);");
    private static final Due due = new Due();

    public static void main(String[] args) throws IOException {
        Map<String, List<String>> quotes = quotes();
        for (int n = 1; n <= Doc.PROMISES; n++) {
            due.is("promise " + n + " is there", Doc.promise(n).isEmpty() ? 0 : 1, 1);
            isQuoted("promise " + n, Doc.promise(n), quotes);
        }
        due.is("no promise behind the last", Doc.promise(Doc.PROMISES + 1).length(), 0);
        for (int n = 0; n <= Doc.PARTS; n++) {
            due.is("part " + n + " is there", Doc.part(n).isEmpty() ? 0 : 1, 1);
            isQuoted("term " + n, Doc.part(n), quotes);
        }
        due.end();
    }

    /** What tests quote of each section, which stands as "promise 7" or "term 2". */
    private static Map<String, List<String>> quotes() throws IOException {
        Map<String, List<String>> quotes = new TreeMap<>();
        try (DirectoryStream<Path> files = Files.newDirectoryStream(TESTS, "*Test.java")) {
            for (Path file : files) {
                Matcher found = QUOTE.matcher(Files.readString(file));
                while (found.find()) {
                    String section = found.group(1) + " " + found.group(2);
                    quotes.computeIfAbsent(section, s -> new ArrayList<>()).add(joined(found.group(3)));
                }
            }
        }
        return quotes;
    }

    private static String joined(String strings) {
        StringBuilder words = new StringBuilder();
        Matcher found = STRING.matcher(strings);
        while (found.find()) {
            words.append(found.group(1));
        }
        return words.toString();
    }

    private static void isQuoted(String name, String section, Map<String, List<String>> quotes) {
        char[] left = section.toCharArray();
        for (String words : quotes.getOrDefault(name, List.of())) {
            int at = section.indexOf(words);
            for (int i = 0; at >= 0 && i < words.length(); i++) {
                left[at + i] = ' ';
            }
        }
        // Headings, the face of a call and what sets rows apart are no sentences.
        String unquoted = new String(left).replaceAll("(?m)^## .*$|^======== \\d |```\\w*|`[^`\n]*`", " ");
        boolean none = unquoted.chars().noneMatch(Character::isLetterOrDigit);
        due.is(name + ": not quoted is '" + unquoted.replaceAll("\\s+", " ") + "',", none ? 1 : 0, 1);
    }
}
