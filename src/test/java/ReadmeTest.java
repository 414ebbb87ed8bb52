import java.io.File;
import java.net.URL;
import java.net.URLClassLoader;
import java.nio.file.Files;
import java.nio.file.Path;
import java.util.ArrayList;
import java.util.List;
import java.util.regex.Matcher;
import java.util.regex.Pattern;
import java.util.spi.ToolProvider;

/** The example of README.md: that it compiles as it stands, and that each call in it answers what is said behind it. */
public final class ReadmeTest extends Asking {
    private static final Pattern CALL = Pattern.compile("(?m)^( *)(w\\.\\w+\\([^;]*\\));(?: *// (-?\\d+)\\b.*)?$");

    public static void main(String[] args) throws Exception {
        says("README.md");
        String readme = Files.readString(Path.of("README.md"));
        List<String> examples = examplesIn(readme);
        due(1, examples.size(), "how many examples there are");
        for (String example : examples) {
            run(example, Files.createTempDirectory("readme"));
            run(asking(example), Files.createTempDirectory("readme"));
        }
        says("README.md tells of every test");
        for (File test : new File("src/test/java").listFiles()) {
            String name = test.getName().replace(".java", "");
            due(1, readme.contains("`" + name + "`") ? 1 : 0, "a word on " + name);
        }
        due(1, readme.contains("\n    .ci/run\n") ? 1 : 0, "a word on .ci/run");
        finish("ReadmeTest");
    }

    /** Public, as the example is loaded apart from the tests. */
    public static void answer(long said, long got, String call) {
        due(said, got, call);
    }

    private static List<String> examplesIn(String readme) {
        List<String> examples = new ArrayList<>();
        Matcher m = Pattern.compile("(?s)```java\n(.*?)```").matcher(readme);
        while (m.find()) {
            examples.add(m.group(1));
        }
        return examples;
    }

    /** Each call of main turned into a question; one without an answer behind it is a failure of its own. */
    private static String asking(String example) {
        int end = example.indexOf("\n    }\n");
        Matcher m = CALL.matcher(example.substring(0, end));
        StringBuilder text = new StringBuilder();
        int calls = 0;
        while (m.find()) {
            calls++;
            if (m.group(3) == null) {
                fail("no answer is said behind " + m.group(2));
                continue;
            }
            m.appendReplacement(text, Matcher.quoteReplacement(m.group(1) + "ReadmeTest.answer(" + m.group(3) + "L, "
                    + m.group(2) + ", \"" + m.group(2) + "\");"));
        }
        m.appendTail(text);
        int stated = example.substring(0, end).split("\\bw\\.").length - 1;
        due(stated, calls, "calls of the example that are asked");
        due(1, calls > 30 ? 1 : 0, "a good number of calls");
        return text + example.substring(end);
    }

    private static void run(String source, Path directory) throws Exception {
        Matcher name = Pattern.compile("public final class (\\w+)").matcher(source);
        if (!name.find()) {
            fail("the example is no class");
            return;
        }
        Path file = directory.resolve(name.group(1) + ".java");
        Files.writeString(file, source);
        int compiled = ToolProvider.findFirst("javac").orElseThrow().run(System.out, System.out, "-Xlint:all", "-Werror",
                "-cp", System.getProperty("java.class.path"), "-d", directory.toString(), file.toString());
        due(0, compiled, "javac of the example");
        if (compiled == 0) {
            try (URLClassLoader loader = new URLClassLoader(new URL[] {directory.toUri().toURL()})) {
                loader.loadClass(name.group(1)).getMethod("main", String[].class).invoke(null, (Object) new String[0]);
            }
        }
        remove(directory.toFile());
    }

    private static void remove(File directory) {
        for (File file : directory.listFiles()) {
            file.delete();
        }
        directory.delete();
    }
}
