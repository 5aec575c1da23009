import java.io.IOException;
import java.io.PrintWriter;
import java.io.StringWriter;
import java.lang.reflect.Constructor;
import java.lang.reflect.Field;
import java.lang.reflect.Method;
import java.lang.reflect.Modifier;
import java.nio.file.Files;
import java.nio.file.Path;
import java.util.ArrayList;
import java.util.Arrays;
import java.util.HashMap;
import java.util.List;
import java.util.Map;
import java.util.Set;
import java.util.TreeSet;
import java.util.regex.Matcher;
import java.util.regex.Pattern;
import java.util.spi.ToolProvider;

/** The public face, and those of the language's rules that a program can see. */
public final class FaceTest {
    private static final Checks CHECKS = new Checks();
    private static final Path SOURCE = Path.of("src/main/java/BundlesOfBids.java");
    static final String[] FACE = {
        "int letter(int)", "int auction()", "int bids(int,int,int)", "int turns(int)", "int price(int,int)",
        "int kind(int,int,int)", "int keep(int,int)", "int bid(int,int)", "int bidder(int,int)", "int may(int)",
        "int winners(int)", "int rank(int,int)", "int item(int,int)", "int rival(int,int)", "int of(int,int)",
        "int pays(int,int)", "int blocks(int,int)", "int lifts()", "int group(int,int)", "int envy(int,int)",
        "int gain(int)", "int without(int)", "int least(int)", "int tight()", "long missing(int,int,int)",
        "long mean(int,int)", "int printed(int)", "int whatIs(int,int)", "int row(int)", "int judge(int)",
        "int clear()", "int lots(int,int,int)", "int image()", "int on()", "int count(int)"};

    public static void main(String[] args) throws IOException {
        face();
        classesInside();
        source();
        depth();
        CHECKS.end("FaceTest");
    }

    private static void face() {
        CHECKS.part("face");
        Class<?> top = BundlesOfBids.class;
        CHECKS.holds("public and final", Modifier.isPublic(top.getModifiers()) && Modifier.isFinal(top.getModifiers()));
        Set<String> seen = new TreeSet<>();
        for (Method method : top.getDeclaredMethods()) {
            if (!Modifier.isPrivate(method.getModifiers()) && !method.isSynthetic()) {
                CHECKS.holds(method.getName() + " is public, of an object", method.getModifiers() == Modifier.PUBLIC);
                List<String> types = new ArrayList<>();
                for (Class<?> type : method.getParameterTypes()) {
                    types.add(type.getName());
                }
                seen.add(method.getReturnType() + " " + method.getName() + "(" + String.join(",", types) + ")");
            }
        }
        CHECKS.holds("the document's methods and no other", seen.equals(new TreeSet<>(Arrays.asList(FACE))));
        Constructor<?>[] constructors = top.getDeclaredConstructors();
        CHECKS.due("constructors", constructors.length, 1);
        CHECKS.due("its parameters", constructors[0].getParameterCount(), 0);
        CHECKS.holds("it is public", Modifier.isPublic(constructors[0].getModifiers()));
        for (Field field : top.getDeclaredFields()) {
            CHECKS.holds(field.getName() + " is private", Modifier.isPrivate(field.getModifiers()));
        }
    }

    private static void classesInside() {
        CHECKS.part("classes inside");
        Set<String> names = new TreeSet<>();
        for (String signature : FACE) {
            names.add(signature.substring(signature.indexOf(' ') + 1, signature.indexOf('(')));
        }
        List<Class<?>> classes = new ArrayList<>(Arrays.asList(BundlesOfBids.class.getDeclaredClasses()));
        CHECKS.holds("at most twelve classes", classes.size() < 12);
        for (Class<?> inside : classes) {
            boolean hidden = (inside.getModifiers() & (Modifier.PUBLIC | Modifier.PROTECTED)) == 0;
            CHECKS.holds(inside + " is static and hidden", hidden && Modifier.isStatic(inside.getModifiers()));
        }
        classes.add(BundlesOfBids.class);
        for (Class<?> any : classes) {
            int fields = 0;
            for (Field field : any.getDeclaredFields()) {
                boolean isStatic = Modifier.isStatic(field.getModifiers());
                fields += isStatic ? 0 : 1;
                CHECKS.holds(field + " is final if static", !isStatic || Modifier.isFinal(field.getModifiers()));
            }
            CHECKS.holds(any + " has few fields", fields <= 20);
            for (Method method : any.getDeclaredMethods()) {
                boolean borrowed = Modifier.isPrivate(method.getModifiers()) && names.contains(method.getName());
                CHECKS.holds(method + " has a name of its own", !borrowed);
                CHECKS.holds(method + " has few parameters", method.getParameterCount() <= 7);
            }
        }
    }

    private static void source() throws IOException {
        CHECKS.part("source");
        String text = Files.readString(SOURCE);
        for (String word : new String[] {"throw", "throws", "try", "catch", "synchronized", "assert", "import",
            "package", "float", "double", "Math.*Exact", "System.out", "equals", "hashCode", "toString"}) {
            CHECKS.holds("no " + word, !Pattern.compile("\\b" + word + "\\b").matcher(bare(text)).find());
        }
        CHECKS.holds("no lambda", !bare(text).contains("->"));
        CHECKS.holds("no method reference", !bare(text).contains("::"));
        CHECKS.holds("plain signs", text.chars().allMatch(c -> c < 127));
        int begun = 0;
        int number = 0;
        for (String line : text.split("\n")) {
            number++;
            boolean isField = line.matches("\\s+private final \\w+(\\[\\])? \\w+ = new .*");
            CHECKS.holds("line " + number + " makes nothing in a call", isField || !bare(line).matches(".*\\bnew\\b.*"));
            if (line.matches("\\s+(public|private) .*\\) \\{")) {
                begun = number;
            }
            CHECKS.holds("line " + number + " is in a short method", !line.matches("    (    )?\\}") || number - begun <= 60
                || line.equals("    }"));
        }
    }

    /** The text without its comments and its texts. */
    private static String bare(String text) {
        return text.replaceAll("(?s)/\\*.*?\\*/", "").replaceAll("//[^\n]*", "").replaceAll("\"[^\"\n]*\"", "\"\"");
    }

    private static void depth() {
        CHECKS.part("depth of calls");
        Map<String, Set<String>> calls = new HashMap<>();
        List<Class<?>> classes = new ArrayList<>(Arrays.asList(BundlesOfBids.class.getDeclaredClasses()));
        classes.add(BundlesOfBids.class);
        for (Class<?> any : classes) {
            readCalls(any.getName(), calls);
        }
        CHECKS.holds("calls are seen", calls.size() > 100);
        Map<String, Integer> known = new HashMap<>();
        for (String method : new ArrayList<>(calls.keySet())) {
            CHECKS.holds(method + " is at most eight deep", depthOf(method, calls, known, 0) <= 8);
        }
    }

    private static void readCalls(String name, Map<String, Set<String>> calls) {
        StringWriter listing = new StringWriter();
        PrintWriter out = new PrintWriter(listing);
        ToolProvider javap = ToolProvider.findFirst("javap").orElseThrow();
        String path = System.getProperty("java.class.path");
        int code = javap.run(out, out, "-p", "-c", Path.of(path, name + ".class").toString());
        CHECKS.due("javap of " + name, code, 0);
        Pattern head = Pattern.compile("  (?:[\\w\\[\\]$.]+ )*([\\w$.]+)\\(.*\\);");
        Pattern call = Pattern.compile("// (?:Interface)?Method (?:([\\w/$]+)\\.)?\"?([\\w<>]+)\"?:");
        String method = "";
        for (String line : listing.toString().split("\n")) {
            Matcher begins = head.matcher(line);
            Matcher calling = call.matcher(line);
            if (begins.matches()) {
                String last = begins.group(1);
                method = name + "." + (last.equals(name) ? "<init>" : last);
                calls.putIfAbsent(method, new TreeSet<>());
            } else if (calling.find() && !method.isEmpty()) {
                String owner = calling.group(1) == null ? name : calling.group(1);
                calls.get(method).add(owner + "." + calling.group(2));
            }
        }
    }

    private static int depthOf(String method, Map<String, Set<String>> calls, Map<String, Integer> known, int open) {
        if (known.containsKey(method) || open > 50) {
            return open > 50 ? 1000 : known.get(method);
        }
        int deepest = 0;
        for (String next : calls.getOrDefault(method, Set.of())) {
            if (!next.equals(method)) {
                deepest = Math.max(deepest, depthOf(next, calls, known, open + 1));
            }
        }
        known.put(method, deepest + 1);
        return deepest + 1;
    }
}
