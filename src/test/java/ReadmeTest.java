import java.io.IOException;
import java.lang.reflect.Method;
import java.lang.reflect.Modifier;
import java.net.URL;
import java.net.URLClassLoader;
import java.nio.file.Files;
import java.nio.file.Path;
import java.util.ArrayList;
import java.util.Comparator;
import java.util.List;
import java.util.regex.Matcher;
import java.util.regex.Pattern;
import java.util.stream.Stream;
import javax.tools.ToolProvider;

/** The examples of README.md, run as they stand: each call answers the number that stands beside it. */
public final class ReadmeTest {
    private static final Pattern BLOCK = Pattern.compile("(?s)```java\n(.*?)```");
    private static final Pattern ANSWERED = Pattern.compile("(?m)^(house\\.[^;]*);\\s*// (-?\\d+): .*$");
    private static int wrong = 0;
    private static int asked = 0;

    /** Called by what the examples become. */
    public static void due(String call, long got, long want) {
        asked++;
        complain(got == want, call + " answers " + got);
    }

    private static void complain(boolean is, String what) {
        if (!is) {
            wrong++;
            System.out.println("ReadmeTest: " + what);
        }
    }

    public static void main(String[] args) throws Exception {
        // The script goes to the project's own folder before it runs a test.
        String readme = Files.readString(Path.of("README.md"));
        for (Method method : LateGlass.class.getDeclaredMethods()) {
            boolean isNamed = readme.contains("`" + method.getName() + "`");
            complain(!Modifier.isPublic(method.getModifiers()) || isNamed, "does not name " + method.getName());
        }
        Matcher blocks = BLOCK.matcher(readme);
        List<String> examples = new ArrayList<>();
        while (blocks.find()) {
            examples.add(blocks.group(1));
        }
        Path folder = Files.createTempDirectory("readme");
        try {
            run(folder, examples);
        } finally {
            remove(folder);
        }
        complain(examples.size() >= 3 && asked >= 30, "too few examples were read: " + asked);
        System.out.println("ReadmeTest: " + examples.size() + " examples, " + asked + " answers, " + wrong + " wrong");
        if (wrong != 0) {
            System.exit(1);
        }
    }

    private static void run(Path folder, List<String> examples) throws Exception {
        StringBuilder source = new StringBuilder("public final class Readme {\n    public static void main(String[] args) {\n");
        for (String example : examples) {
            source.append("{\n").append(ANSWERED.matcher(example).replaceAll(m ->
                Matcher.quoteReplacement("ReadmeTest.due(\"" + m.group(1) + "\", " + m.group(1) + ", " + m.group(2) + "L);")))
                .append("}\n");
        }
        source.append("    }\n}\n");
        Path file = folder.resolve("Readme.java");
        Files.writeString(file, source);
        int code = ToolProvider.getSystemJavaCompiler().run(null, null, null, "-cp", System.getProperty("java.class.path"),
            "-d", folder.toString(), file.toString());
        complain(code == 0, "the examples do not compile");
        if (code == 0) {
            try (URLClassLoader loader = new URLClassLoader(new URL[] {folder.toUri().toURL()})) {
                loader.loadClass("Readme").getMethod("main", String[].class).invoke(null, (Object) new String[0]);
            }
        }
    }

    private static void remove(Path folder) throws IOException {
        try (Stream<Path> all = Files.walk(folder)) {
            for (Path path : all.sorted(Comparator.reverseOrder()).toList()) {
                Files.delete(path);
            }
        }
    }
}
