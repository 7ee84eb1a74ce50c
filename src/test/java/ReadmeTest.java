import java.io.File;
import java.io.IOException;
import java.lang.reflect.Method;
import java.lang.reflect.Modifier;
import java.net.URL;
import java.net.URLClassLoader;
import java.nio.file.Files;
import java.nio.file.Path;
import java.util.ArrayList;
import java.util.Comparator;
import java.util.List;
import java.util.TreeSet;
import java.util.regex.Matcher;
import java.util.regex.Pattern;
import java.util.stream.Collectors;
import java.util.stream.Stream;

/** The Java of README.md compiles, answers what stands behind each call, and leaves out no call of the face. */
public final class ReadmeTest {
    private static final Pattern BLOCK = Pattern.compile("(?ms)^```java\\n(.*?)^```$");
    private static final Pattern ASKED = Pattern.compile(
            "(?:int (\\w+) = )?(x\\.(\\w+)\\(.*\\)); +// (NONE|-?\\d+|true|false|throws \\w+)(?:: .+)?");
    private static final String MADE = "LinkArchive x = new LinkArchive();";

    private static final String HEAD = "public final class %s {\n"
            + "    static final java.util.List<String> TOLD = new java.util.ArrayList<>();\n"
            + "    static void tell(java.util.concurrent.Callable<Object> call) throws Exception {\n"
            + "        try { TOLD.add(String.valueOf(call.call())); }\n"
            + "        catch (RuntimeException e) { TOLD.add(\"throws \" + e.getClass().getSimpleName()); }\n"
            + "    }\n"
            + "    public static java.util.List<String> told() throws Exception {\n";
    private static final String FOOT = "        return TOLD;\n    }\n}\n";

    private static final Check CHECK = new Check("ReadmeTest");

    public static void main(String[] args) throws Exception {
        String text = Files.readString(Path.of("README.md"));
        Path out = Files.createTempDirectory("readme");
        try {
            allIsAsItAnswers(text, out);
        } finally {
            remove(out);
        }
        CHECK.finish();
    }

    private static void allIsAsItAnswers(String text, Path out) throws Exception {
        TreeSet<String> shown = new TreeSet<>();
        Matcher block = BLOCK.matcher(text);
        int blocks = 0;
        while (block.find()) {
            List<String> lines = block.group(1).lines().filter(line -> !line.isBlank()).collect(Collectors.toList());
            blockIsAsItAnswers("ReadmeBlock" + blocks, lines, out, shown);
            blocks++;
        }
        CHECK.isTrue("README.md shows the use of the class", blocks > 0);
        TreeSet<String> face = Stream.of(LinkArchive.class.getDeclaredMethods())
                .filter(m -> Modifier.isPublic(m.getModifiers()))
                .map(Method::getName).collect(Collectors.toCollection(TreeSet::new));
        CHECK.same("the calls that README.md shows", face.toString(), shown.toString());
        for (String name : face) {
            CHECK.isTrue("the table of calls tells " + name, text.contains("\n| `" + name + "("));
        }
    }

    private static void blockIsAsItAnswers(String name, List<String> lines, Path out, TreeSet<String> shown)
            throws Exception {
        StringBuilder code = new StringBuilder(String.format(HEAD, name));
        List<String> asked = new ArrayList<>();
        List<String> due = new ArrayList<>();
        for (String line : lines) {
            Matcher m = ASKED.matcher(line);
            if (m.matches()) {
                code.append(asking(m.group(1), m.group(2)));
                shown.add(m.group(3));
                asked.add(line);
                due.add(m.group(4).equals("NONE") ? Integer.toString(LinkArchive.NONE) : m.group(4));
            } else {
                CHECK.same("a line without an answer", MADE, line);
                code.append(line).append('\n');
            }
        }
        List<String> got = told(name, code.append(FOOT).toString(), out);
        CHECK.isTrue(name + " compiles and answers each line", got.size() == due.size());
        for (int i = 0; i < got.size() && i < due.size(); i++) {
            CHECK.same(asked.get(i), due.get(i), got.get(i));
        }
        CHECK.isTrue(name + " asks at most 512 times", due.size() <= 512);
    }

    private static String asking(String variable, String call) {
        if (variable == null) {
            return "tell(() -> " + call + ");\n";
        }
        return "int " + variable + " = " + call + ";\ntell(() -> " + variable + ");\n";
    }

    private static List<String> told(String name, String code, Path out) throws Exception {
        Path source = Files.writeString(out.resolve(name + ".java"), code);
        String path = System.getProperty("java.class.path");
        Process javac = new ProcessBuilder("javac", "-encoding", "UTF-8", "-cp", path, "-d", out.toString(),
                source.toString()).inheritIO().start();
        if (javac.waitFor() != 0) {
            return List.of();
        }
        List<String> told = new ArrayList<>();
        try (URLClassLoader loader = new URLClassLoader(new URL[] {out.toUri().toURL()})) {
            for (Object answer : (List<?>) loader.loadClass(name).getMethod("told").invoke(null)) {
                told.add(String.valueOf(answer));
            }
        }
        return told;
    }

    private static void remove(Path directory) throws IOException {
        try (Stream<Path> paths = Files.walk(directory)) {
            paths.sorted(Comparator.reverseOrder()).map(Path::toFile).forEach(File::delete);
        }
    }
}
