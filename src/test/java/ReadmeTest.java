import java.io.IOException;
import java.lang.reflect.Method;
import java.lang.reflect.Modifier;
import java.net.URL;
import java.net.URLClassLoader;
import java.nio.file.Files;
import java.nio.file.Path;
import java.util.ArrayList;
import java.util.Comparator;
import java.util.List;
import java.util.Set;
import java.util.TreeSet;
import java.util.stream.Stream;
import javax.tools.ToolProvider;

/** README.md's example compiles, and each call in it answers what stands behind it. Run in the project's directory. */
public final class ReadmeTest {
    private static final String CALL = "board.";
    private static final Check CHECK = new Check();

    private static final List<String> SOURCE = new ArrayList<>();
    private static final List<String> CALLS = new ArrayList<>();
    private static final List<String> DUE = new ArrayList<>();

    public static void main(String[] args) throws Exception {
        for (String line : example(Files.readAllLines(Path.of("README.md")))) {
            read(line);
        }
        namesEveryCall();
        List<?> answers = answers();
        CHECK.due("how many calls README.md makes", DUE.size(), answers.size());
        for (int i = 0; i < answers.size() && i < DUE.size(); i++) {
            CHECK.due("README.md: " + CALLS.get(i), DUE.get(i), answers.get(i));
        }
        CHECK.end("ReadmeTest");
    }

    private static List<String> example(List<String> page) {
        int start = page.indexOf("```java") + 1;
        List<String> behind = page.subList(start, page.size());
        return behind.subList(0, behind.indexOf("```"));
    }

    /** A call has its answer behind it, up to a colon; any other line stands as it is. */
    private static void read(String line) {
        if (!line.startsWith(CALL)) {
            SOURCE.add(line);
            return;
        }
        String call = line.substring(0, line.indexOf(';'));
        CALLS.add(call);
        DUE.add(line.substring(line.indexOf("//") + 2).split(":")[0].strip());
        SOURCE.add("answers.add(of(() -> " + call + "));");
    }

    private static void namesEveryCall() {
        Set<String> face = new TreeSet<>();
        for (Method m : HarbourBoard.class.getDeclaredMethods()) {
            if (Modifier.isPublic(m.getModifiers())) {
                face.add(m.getName());
            }
        }
        Set<String> named = new TreeSet<>();
        for (String call : CALLS) {
            named.add(call.substring(CALL.length(), call.indexOf('(')));
        }
        CHECK.due("the calls that README.md shows", face, named);
    }

    private static List<?> answers() throws Exception {
        Path room = Files.createTempDirectory("readme");
        try {
            Path file = Files.writeString(room.resolve("Example.java"), source());
            int failed = ToolProvider.getSystemJavaCompiler().run(null, null, null,
                "-cp", System.getProperty("java.class.path"), "-d", room.toString(), file.toString());
            CHECK.due("compiling README.md's example", 0, failed);
            return failed == 0 ? answersOf(room) : List.of();
        } finally {
            remove(room);
        }
    }

    private static List<?> answersOf(Path room) throws Exception {
        try (URLClassLoader loader = new URLClassLoader(new URL[] {room.toUri().toURL()})) {
            return (List<?>) loader.loadClass("Example").getMethod("answers").invoke(null);
        }
    }

    private static String source() {
        return """
            import java.util.ArrayList;
            import java.util.List;
            import java.util.concurrent.Callable;

            public final class Example {
                private static String of(Callable<Object> call) {
                    try {
                        return call.call().toString();
                    } catch (Exception e) {
                        return "throws." + e.getClass().getSimpleName();
                    }
                }

                public static List<String> answers() {
                    List<String> answers = new ArrayList<>();
            """ + String.join("\n", SOURCE) + """

                    return answers;
                }
            }
            """;
    }

    private static void remove(Path room) throws IOException {
        try (Stream<Path> all = Files.walk(room)) {
            for (Path path : all.sorted(Comparator.reverseOrder()).toList()) {
                Files.delete(path);
            }
        }
    }
}
