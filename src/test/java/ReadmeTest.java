import java.io.IOException;
import java.nio.file.Files;
import java.nio.file.Path;
import java.util.regex.Matcher;
import java.util.regex.Pattern;

/** README.md: each call of its examples answers what stands behind it, and each call of the face is named. */
public final class ReadmeTest {
    private static final Path README = Path.of("README.md");
    private static final Pattern CALL = Pattern.compile("x\\.(\\w+)\\(([^)]*)\\);\\s*// ([-\\w]+)(:.*)?");
    private static final Due due = new Due();

    public static void main(String[] args) throws IOException {
        String page = Files.readString(README);
        int examples = 0;
        Matcher block = Pattern.compile("(?s)```java\n(.*?)```").matcher(page);
        while (block.find()) {
            runs(block.group(1).split("\n"));
            examples++;
        }
        due.is("there are examples", examples > 0 ? 1 : 0, 1);
        for (var method : WornWeights.class.getDeclaredMethods()) {
            if (java.lang.reflect.Modifier.isPublic(method.getModifiers())) {
                boolean named = Pattern.compile("`" + method.getName() + "`|\\bx\\." + method.getName() + "\\(").matcher(page).find();
                due.is(method.getName() + " is named", named ? 1 : 0, 1);
            }
        }
        due.is("it says how to run the tests", page.contains("    .ci/run\n") ? 1 : 0, 1);
        due.end();
    }

    private static void runs(String[] lines) {
        due.is(lines[0], lines[0].equals("WornWeights x = new WornWeights();") ? 1 : 0, 1);
        WornWeights x = new WornWeights();
        for (int i = 1; i < lines.length; i++) {
            Matcher call = CALL.matcher(lines[i]);
            if (call.matches()) {
                due.is(lines[i], Face.call(x, call.group(1), numbers(call.group(2))), number(call.group(3)));
            } else {
                due.is("a call with its answer: " + lines[i], 0, 1);
            }
        }
    }

    private static int[] numbers(String args) {
        String[] words = args.isBlank() ? new String[0] : args.split(",");
        int[] numbers = new int[words.length];
        for (int i = 0; i < words.length; i++) {
            numbers[i] = number(words[i].strip());
        }
        return numbers;
    }

    private static int number(String word) {
        return switch (word.replace("WornWeights.", "")) {
            case "BAD" -> Due.BAD;
            case "NO" -> Due.NO;
            case "FULL" -> Due.FULL;
            case "NONE" -> Due.NONE;
            case "NOTHING" -> Due.NOTHING;
            case "KIND" -> Due.KIND;
            case "INDEX" -> Due.INDEX;
            case "SIZE" -> Due.SIZE;
            default -> word.startsWith("0b") ? Integer.parseInt(word.substring(2), 2) : Integer.decode(word);
        };
    }
}
