import java.io.IOException;
import java.net.URL;
import java.net.URLClassLoader;
import java.nio.file.Files;
import java.nio.file.Path;
import java.util.ArrayList;
import java.util.List;
import java.util.regex.Matcher;
import java.util.regex.Pattern;
import javax.tools.ToolProvider;

/** The example of README.md: it compiles, and each call answers what stands behind it. */
public final class ReadmeTests {
    private static final Pattern TOLD = Pattern.compile("(ropes\\..*\\)); +// = (-?\\d+)( .*)?");
    private static final int FEWEST = 15;

    private static int wrong = 0;
    private static int calls = 0;

    /** Called by the example. */
    public static void due(String call, long got, long want) {
        calls++;
        if (got != want) {
            wrong++;
            System.out.println("README.md: " + call + " answered " + got + ", told is " + want);
        }
    }

    public static void main(String[] args) throws Exception {
        String readme = Files.readString(Path.of("README.md"));
        Matcher block = Pattern.compile("(?s)```java\n(.*?)```").matcher(readme);
        while (block.find()) {
            run(block.group(1));
        }
        boolean holds = wrong == 0 && calls >= FEWEST;
        System.out.println(holds ? calls + " answers are as README.md tells" : wrong + " of " + calls + " answers are not");
        System.exit(holds ? 0 : 1);
    }

    private static void run(String example) throws IOException, ReflectiveOperationException {
        Path folder = Files.createTempDirectory("readme");
        Path file = folder.resolve("Example.java");
        Files.writeString(file, "public class Example { public static void main(String[] args) {\n" + asked(example) + "} }\n");
        String path = System.getProperty("java.class.path");
        int status = ToolProvider.getSystemJavaCompiler().run(null, null, null, "-cp", path, "-d", "" + folder, "" + file);
        if (status == 0) {
            try (URLClassLoader loader = new URLClassLoader(new URL[] {folder.toUri().toURL()})) {
                loader.loadClass("Example").getMethod("main", String[].class).invoke(null, (Object) args());
            }
        } else {
            wrong++;
        }
        for (String name : new String[] {"Example.class", "Example.java", ""}) {
            Files.deleteIfExists(folder.resolve(name));
        }
    }

    private static String[] args() {
        return new String[0];
    }

    /** The example with each call that has an answer behind it asked for that. */
    private static String asked(String example) {
        List<String> lines = new ArrayList<>();
        for (String line : example.split("\n")) {
            Matcher told = TOLD.matcher(line);
            lines.add(told.matches()
                    ? "ReadmeTests.due(\"" + told.group(1) + "\", " + told.group(1) + ", " + told.group(2) + "L);" : line);
        }
        return String.join("\n", lines) + "\n";
    }
}
