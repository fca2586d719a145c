import java.io.IOException;
import java.lang.reflect.Constructor;
import java.lang.reflect.Field;
import java.lang.reflect.Member;
import java.lang.reflect.Method;
import java.lang.reflect.Modifier;
import java.nio.file.Files;
import java.nio.file.Path;
import java.util.ArrayList;
import java.util.Arrays;
import java.util.List;
import java.util.Set;
import java.util.TreeSet;
import java.util.regex.Matcher;
import java.util.regex.Pattern;

/** The document's face, and those rules of LANGUAGE.md that can be seen from outside or in the file's words. */
public final class FaceTest {
    private static final Path DOC = Path.of("../shared/DOC.md");
    private static final Path SOURCE = Path.of("src/main/java/WornWeights.java");
    private static final List<String> wrong = new ArrayList<>();

    public static void main(String[] args) throws IOException {
        face();
        constants();
        numbersByName();
        headings();
        members();
        classesInside();
        words();
        wrong.forEach(System.out::println);
        System.out.println(wrong.isEmpty() ? "the face and the rules are kept" : wrong.size() + " are not kept");
        if (!wrong.isEmpty()) {
            System.exit(1);
        }
    }

    private static void must(boolean kept, String rule) {
        if (!kept) {
            wrong.add(rule);
        }
    }

    private static void face() throws IOException {
        Set<String> want = new TreeSet<>();
        Matcher method = Pattern.compile("(?m)^    public int (\\w+)\\(([^)]*)\\);$").matcher(Files.readString(DOC));
        while (method.find()) {
            String numbers = method.group(2);
            want.add(method.group(1) + " " + (numbers.isEmpty() ? 0 : numbers.split(",").length));
        }
        Set<String> got = new TreeSet<>();
        for (Method m : WornWeights.class.getDeclaredMethods()) {
            if (Modifier.isPublic(m.getModifiers())) {
                got.add(m.getName() + " " + m.getParameterCount());
                must(m.getReturnType() == int.class && !Modifier.isStatic(m.getModifiers()), m + " is not of the face");
                must(Arrays.stream(m.getParameterTypes()).allMatch(t -> t == int.class), m + " takes no ints");
            }
        }
        must(want.size() == 42 && want.equals(got), "the methods are " + got + ", the document has " + want);
        int modifiers = WornWeights.class.getModifiers();
        must(Modifier.isPublic(modifiers) && Modifier.isFinal(modifiers), "the class is public and final");
        Constructor<?>[] made = WornWeights.class.getDeclaredConstructors();
        must(made.length == 1 && Modifier.isPublic(made[0].getModifiers()) && made[0].getParameterCount() == 0, "constructor");
    }

    private static void constants() throws IOException {
        Matcher row = Pattern.compile("(?m)^    public static final int (.*);$").matcher(Files.readString(DOC));
        must(row.find(), "the document has constants");
        Matcher constant = Pattern.compile("(\\w+) = (-\\d+)").matcher(row.group(1));
        int many = 0;
        while (constant.find()) {
            many++;
            must(valueOf(constant.group(1)) == Long.parseLong(constant.group(2)), constant.group() + " is due");
        }
        must(many == 8, "eight constants");
    }

    /** What a constant of the class is; 0, which none is, if it is no public static final int. */
    private static long valueOf(String name) {
        try {
            Field f = WornWeights.class.getField(name);
            boolean constant = Modifier.isStatic(f.getModifiers()) && Modifier.isFinal(f.getModifiers());
            return constant && f.getType() == int.class ? f.getInt(null) : 0;
        } catch (ReflectiveOperationException none) {
            return 0;
        }
    }

    /** The numbers of each call bear the document's names, in its order. */
    private static void numbersByName() throws IOException {
        String source = Files.readString(SOURCE);
        Matcher face = Pattern.compile("(?m)^    (public int \\w+\\([^)]*\\));$").matcher(Files.readString(DOC));
        int at = 0;
        while (face.find()) {
            int found = source.indexOf("    " + face.group(1) + " {\n", at);
            must(found >= 0, face.group(1) + " stands in the document's order");
            at = Math.max(at, found);
        }
    }

    /** "Ahead of the calls .. the interface says: ---- ..": the same words stand ahead of the same calls. */
    private static void headings() throws IOException {
        String source = Files.readString(SOURCE);
        Matcher heading = Pattern.compile("(?m)^Ahead of the calls (.*) the interface says: (---- .*)\\.$").matcher(Files.readString(DOC));
        int many = 0;
        while (heading.find()) {
            many++;
            int from = source.indexOf("    // " + heading.group(2) + "\n");
            int to = source.indexOf("\n    // ----", from + 1);
            must(from >= 0 && to >= 0, heading.group(2) + " is a heading");
            String part = source.substring(Math.max(0, from), Math.max(from, Math.max(0, to)));
            must(names("(?m)^    public int (\\w+)\\(", part).equals(names("`(\\w+)`", heading.group(1))), heading.group());
        }
        must(many == 6, "six headings");
    }

    private static List<String> names(String pattern, String text) {
        List<String> names = new ArrayList<>();
        Matcher found = Pattern.compile(pattern).matcher(text);
        while (found.find()) {
            names.add(found.group(1));
        }
        return names;
    }

    private static void members() {
        Set<String> constants = Set.of("BAD", "NO", "FULL", "NONE", "NOTHING", "KIND", "INDEX", "SIZE");
        Set<String> names = new TreeSet<>();
        for (Method m : WornWeights.class.getDeclaredMethods()) {
            if (Modifier.isPublic(m.getModifiers())) {
                names.add(m.getName());
            }
        }
        for (Field f : WornWeights.class.getDeclaredFields()) {
            must(Modifier.isPublic(f.getModifiers()) == constants.contains(f.getName()), f + " is public or not");
            must(isHidden(f) || constants.contains(f.getName()), f + " is private");
        }
        for (Method m : WornWeights.class.getDeclaredMethods()) {
            must(Modifier.isPublic(m.getModifiers()) || isHidden(m), m + " is private");
            must(Modifier.isPublic(m.getModifiers()) || !names.contains(m.getName()), m + " bears the name of a public one");
        }
    }

    private static boolean isHidden(Member m) {
        return Modifier.isPrivate(m.getModifiers()) || m.isSynthetic();
    }

    private static void classesInside() {
        Class<?>[] inside = WornWeights.class.getDeclaredClasses();
        must(inside.length < 12, "some twelve classes");
        List<Class<?>> all = new ArrayList<>(List.of(inside));
        all.add(WornWeights.class);
        for (Class<?> c : all) {
            must(c == WornWeights.class || Modifier.isStatic(c.getModifiers()), c + " is static");
            must(c == WornWeights.class || !Modifier.isPublic(c.getModifiers()), c + " is not public");
            long fields = Arrays.stream(c.getDeclaredFields()).filter(f -> !Modifier.isStatic(f.getModifiers())).count();
            must(fields <= 20, c + " has " + fields + " fields");
            for (Field f : c.getDeclaredFields()) {
                must(!Modifier.isStatic(f.getModifiers()) || Modifier.isFinal(f.getModifiers()), f + " is final");
            }
            for (Method m : c.getDeclaredMethods()) {
                must(m.getParameterCount() <= 7, m + " takes at most seven");
                must(c == WornWeights.class || !isOfTheFace(m.getName()), m + " bears the name of a public one");
            }
        }
    }

    private static boolean isOfTheFace(String name) {
        return Arrays.stream(WornWeights.class.getMethods())
            .anyMatch(m -> m.getDeclaringClass() == WornWeights.class && m.getName().equals(name));
    }

    private static void words() throws IOException {
        String source = Files.readString(SOURCE);
        must(source.chars().allMatch(c -> c < 128), "signs 1 to 127 alone");
        String code = source.replaceAll("(?s)/\\*.*?\\*/", "").replaceAll("//.*", "").replaceAll("\"[^\"\\n]*\"", "\"\"");
        for (String word : List.of("throw", "throws", "try", "catch", "finally", "synchronized", "assert", "protected",
                "package", "double", "float", "Object", "equals", "hashCode", "Random", "System.out", "Thread", "var")) {
            must(!Pattern.compile("\\b" + Pattern.quote(word) + "\\b").matcher(code).find(), "no " + word);
        }
        must(!code.contains("->") && !code.contains("::"), "no lambda, no method reference");
        must(!code.contains("Exact("), "no Exact function");
        Matcher imports = Pattern.compile("(?m)^import (.*);").matcher(code);
        while (imports.find()) {
            must(imports.group(1).equals("java.util.Arrays"), "no import of " + imports.group(1));
        }
        int open = -1;
        String[] lines = source.split("\n");
        for (int i = 0; i < lines.length; i++) {
            if (lines[i].matches("( {4}| {8})[A-Za-z].*\\) \\{")) {
                open = i;
            }
            if (open >= 0 && lines[i].matches("( {4}| {8})\\}")) {
                must(i - open < 60, "short methods: line " + (open + 1));
                open = -1;
            }
        }
    }
}
