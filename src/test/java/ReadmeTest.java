import java.io.File;
import java.net.URL;
import java.net.URLClassLoader;
import java.nio.file.Files;
import java.nio.file.Path;
import java.util.ArrayList;
import java.util.Comparator;
import java.util.List;
import java.util.regex.Matcher;
import java.util.regex.Pattern;
import java.util.stream.Stream;
import javax.tools.ToolProvider;

/** The Java that README.md shows is compiled and run: each call has to answer what the page says behind it. */
public final class ReadmeTest {
    private static final Check CHECK = new Check();
    private static final Pattern BLOCK = Pattern.compile("(?s)```java\n(.*?)```");
    /** A call, and its answer at the beginning of the comment behind it. */
    private static final Pattern ANSWERED = Pattern.compile("(\\w.*\\));\\s*// (-?\\d+)(\\D.*)?");
    private static int answered;

    public static void main(String[] args) throws Exception {
        String page = Files.readString(Path.of("README.md"));
        everyCallIsNamed(page);
        Path place = Files.createTempDirectory("readme");
        try {
            Files.writeString(place.resolve("Shown.java"), program(page));
            run(place);
        } finally {
            remove(place);
        }
        CHECK.end();
    }

    private static void everyCallIsNamed(String page) {
        for (java.lang.reflect.Method m : TurnedStatues.class.getDeclaredMethods()) {
            if (java.lang.reflect.Modifier.isPublic(m.getModifiers())) {
                boolean named = Pattern.compile("`" + m.getName() + "`").matcher(page).find();
                boolean shown = Pattern.compile("x\\." + m.getName() + "\\(").matcher(page).find();
                CHECK.due(m.getName() + " is named", named ? 1 : 0, 1);
                CHECK.due(m.getName() + " is shown", shown ? 1 : 0, 1);
            }
        }
    }

    /** The page's methods as they are, and its other lines one behind the other, each answer kept beside what is due. */
    private static String program(String page) {
        StringBuilder members = new StringBuilder();
        StringBuilder body = new StringBuilder();
        Matcher blocks = BLOCK.matcher(page);
        while (blocks.find()) {
            if (blocks.group(1).startsWith("static ")) {
                members.append(blocks.group(1));
            } else {
                for (String line : blocks.group(1).split("\n")) {
                    body.append(statement(line)).append('\n');
                }
            }
        }
        return "public final class Shown {\n" + members + "public static void run(java.util.List<Object[]> due) {\n" + body + "}\n}\n";
    }

    private static String statement(String line) {
        Matcher m = ANSWERED.matcher(line);
        if (!m.matches()) {
            CHECK.due("without an answer: " + line, line.startsWith("TurnedStatues x = new ") ? 1 : 0, 1);
            return line;
        }
        answered++;
        String call = m.group(1).replace("\\", "\\\\").replace("\"", "\\\"");
        return "due.add(new Object[] {\"" + call + "\", (long) " + m.group(1) + ", " + m.group(2) + "L});";
    }

    private static void run(Path place) throws Exception {
        String classes = System.getProperty("java.class.path");
        int failed = ToolProvider.getSystemJavaCompiler().run(null, null, null, "-cp", classes, "-d", place.toString(),
                place.resolve("Shown.java").toString());
        CHECK.due("javac", failed, 0);
        if (failed != 0) {
            return;
        }
        List<Object[]> all = new ArrayList<>();
        try (URLClassLoader loader = new URLClassLoader(new URL[] {place.toUri().toURL()})) {
            loader.loadClass("Shown").getMethod("run", List.class).invoke(null, all);
        }
        CHECK.due("calls with answers", all.size(), answered);
        for (Object[] one : all) {
            CHECK.due((String) one[0], (Long) one[1], (Long) one[2]);
        }
    }

    private static void remove(Path place) throws Exception {
        try (Stream<Path> files = Files.walk(place)) {
            files.sorted(Comparator.reverseOrder()).map(Path::toFile).forEach(File::delete);
        }
    }
}
