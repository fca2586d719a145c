import java.io.IOException;
import java.nio.file.DirectoryStream;
import java.nio.file.Files;
import java.nio.file.Path;
import java.util.Set;
import java.util.TreeSet;
import java.util.regex.Matcher;
import java.util.regex.Pattern;

/** Each promise and each part of 'Terms' is named by a test; that its words stand in the document, Due sees. */
public final class SentencesTest {
    private static final Path TESTS = Path.of("src/test/java");
    private static final Due due = new Due();

    public static void main(String[] args) throws IOException {
        Set<Integer> promises = new TreeSet<>();
        Set<Integer> parts = new TreeSet<>();
        try (DirectoryStream<Path> files = Files.newDirectoryStream(TESTS, "*Test.java")) {
            for (Path file : files) {
                String source = Files.readString(file);
                named("promise", source, promises);
                named("term", source, parts);
            }
        }
        for (int n = 1; n <= Doc.PROMISES; n++) {
            due.is("promise " + n + " is named", promises.contains(n) ? 1 : 0, 1);
            due.is("promise " + n + " is there", Doc.promise(n).isEmpty() ? 0 : 1, 1);
        }
        due.is("no promise behind the last", Doc.promise(Doc.PROMISES + 1).length(), 0);
        for (int n = 0; n <= Doc.PARTS; n++) {
            due.is("part " + n + " is named", parts.contains(n) ? 1 : 0, 1);
        }
        due.end();
    }

    private static void named(String what, String source, Set<Integer> numbers) {
        Matcher found = Pattern.compile("\\bdue\\." + what + "\\((\\d+), \"").matcher(source);
        while (found.find()) {
            numbers.add(Integer.parseInt(found.group(1)));
        }
    }
}
