import java.io.IOException;
import java.nio.file.Files;
import java.nio.file.Path;
import java.util.ArrayList;
import java.util.Arrays;
import java.util.List;
import java.util.TreeSet;
import java.util.regex.Matcher;
import java.util.regex.Pattern;
import java.util.stream.Stream;

/** The papers beside the class: the document has the tested face and promises, README shows what is so. */
public final class PapersTest {
    private static final Checks CHECKS = new Checks();
    private static final Path DOCUMENT = Path.of("../shared/DOC.md");
    private static final Path README = Path.of("README.md");
    private static final Path TESTS = Path.of("src/test/java");

    public static void main(String[] args) throws IOException {
        if (Files.exists(DOCUMENT)) {
            documentsFace();
            promisesHaveTests();
        } else {
            System.out.println("PapersTest: no " + DOCUMENT + " to look at");
        }
        readmesExample();
        readmesNames();
        CHECKS.end("PapersTest");
    }

    private static List<String> found(String pattern, String text) {
        List<String> found = new ArrayList<>();
        Matcher matcher = Pattern.compile(pattern, Pattern.MULTILINE).matcher(text);
        while (matcher.find()) {
            found.add(matcher.group(1));
        }
        return found;
    }

    private static void documentsFace() throws IOException {
        CHECKS.part("the document's face");
        TreeSet<String> face = new TreeSet<>();
        for (String method : found("^    public ((?:int|long) .*);$", Files.readString(DOCUMENT))) {
            face.add(method.replaceAll("int \\w+(?=[,)])", "int").replace(", ", ","));
        }
        CHECKS.holds("FaceTest has it", face.equals(new TreeSet<>(Arrays.asList(FaceTest.FACE))));
        CHECKS.due("methods", face.size(), Calls.NAMES.length);
    }

    private static void promisesHaveTests() throws IOException {
        CHECKS.part("the document's promises");
        String parts = String.join("\n", found("part\\(\"(Promises? [\\d, ]+):", allTests()));
        List<String> promises = found("^## Promise (\\d+: .*)$", Files.readString(DOCUMENT));
        CHECKS.due("promises", promises.size(), Calls.NAMES.length + 1);
        for (int i = 0; i < promises.size(); i++) {
            String name = i == 0 ? "A new object" : Calls.NAMES[i - 1];
            CHECKS.holds("promise " + promises.get(i) + " is " + name, promises.get(i).equals(i + 1 + ": " + name));
            boolean named = Pattern.compile("\\b" + (i + 1) + "\\b").matcher(parts).find();
            CHECKS.holds("a test names promise " + promises.get(i), named);
        }
    }

    private static String allTests() throws IOException {
        StringBuilder text = new StringBuilder();
        try (Stream<Path> files = Files.list(TESTS)) {
            for (Path file : files.sorted().toList()) {
                text.append(Files.readString(file));
            }
        }
        return text.toString();
    }

    /** Each line of README's example that calls the object and says behind "//" what it answers. */
    private static void readmesExample() throws IOException {
        CHECKS.part("README's example");
        String text = Files.readString(README);
        BundlesOfBids x = new BundlesOfBids();
        List<String> told = found("String text = \"(.*)\";", text);
        CHECKS.due("texts", told.size(), 1);
        Sales.send(x, String.join("", told));
        Matcher line = Pattern.compile("(?m)^x\\.(\\w+)\\(([^)]*)\\); +// (-?\\d+)\\b").matcher(text);
        int lines = 0;
        while (line.find()) {
            lines++;
            int[] a = Arrays.copyOf(numbers(line.group(2)), 3);
            long want = Long.parseLong(line.group(3));
            CHECKS.due(line.group(), Calls.of(x, line.group(1), a[0], a[1], a[2]), want);
        }
        CHECKS.due("lines", lines, found("^(x\\.)", text).size());
        CHECKS.holds("there are some", lines > 5);
    }

    private static int[] numbers(String list) {
        return found("(-?\\d+)", list).stream().mapToInt(Integer::parseInt).toArray();
    }

    private static void readmesNames() throws IOException {
        CHECKS.part("README's names");
        String text = Files.readString(README);
        for (String method : FaceTest.FACE) {
            String name = method.substring(method.indexOf(' ') + 1, method.indexOf('('));
            CHECKS.holds(name, Pattern.compile("(?m)^\\|.*`" + name + "\\(.*\\|$").matcher(text).find());
        }
        try (Stream<Path> files = Files.list(TESTS)) {
            for (Path file : files.sorted().toList()) {
                String name = file.getFileName().toString().replace(".java", "");
                CHECKS.holds(name, text.contains("`" + name + "`") || text.contains(name + ".java`"));
            }
        }
    }
}
