import java.io.IOException;
import java.lang.reflect.Method;
import java.lang.reflect.Modifier;
import java.net.URL;
import java.net.URLClassLoader;
import java.nio.file.Files;
import java.nio.file.Path;
import java.util.ArrayList;
import java.util.List;
import java.util.Set;
import java.util.TreeSet;
import java.util.regex.Matcher;
import java.util.regex.Pattern;
import java.util.stream.Stream;
import javax.tools.ToolProvider;

/**
 * README.md tells no more and no less than what is there. It reads the page by its path from
 * the project's root, where .ci/run runs it.
 */
public final class ReadmeTest {
    private static final Path BUILD = Path.of("build/readme");
    private static final Pattern EXAMPLE = Pattern.compile("(?s)```java\n(.*?)```");
    private static final Pattern ANSWERED = Pattern.compile("int (\\w+) = .*; *// (-?\\d+)\\b.*");
    private static final Pattern CALL = Pattern.compile("(?m)^\\| `(\\w+)\\(([^)]*)\\)` \\|");
    private static final Pattern TEST = Pattern.compile("(?m)^\\| (\\w+Test) \\|");

    private static final List<String> faults = new ArrayList<>();

    public static void main(String[] args) throws Exception {
        String page = Files.readString(Path.of("README.md"));
        checkExample(page);
        checkSame("call", callsIn(page), callsOfTheClass());
        checkSame("test", testsIn(page), testsOfTheProject());
        faults.forEach(System.out::println);
        if (!faults.isEmpty()) {
            System.exit(1);
        }
        System.out.println("the page is as the class and the tests are");
    }

    private static void checkExample(String page) throws Exception {
        Matcher example = EXAMPLE.matcher(page);
        if (!example.find()) {
            faults.add("there is no example");
            return;
        }
        List<String> names = new ArrayList<>();
        List<Integer> due = new ArrayList<>();
        for (String line : example.group(1).split("\n")) {
            Matcher answered = ANSWERED.matcher(line);
            if (answered.matches()) {
                names.add(answered.group(1));
                due.add(Integer.parseInt(answered.group(2)));
            } else if (!line.equals("SalonBook book = new SalonBook();")) {
                faults.add("the example tells no answer: " + line);
            }
        }
        int[] got = answersOf(example.group(1), names);
        for (int i = 0; i < got.length; i++) {
            if (got[i] != due.get(i)) {
                faults.add(names.get(i) + " is " + got[i] + ", the page tells " + due.get(i));
            }
        }
    }

    private static int[] answersOf(String example, List<String> names) throws Exception {
        Path source = BUILD.resolve("ReadmeExample.java");
        Files.createDirectories(BUILD);
        Files.writeString(source, "public final class ReadmeExample {\n"
            + "public static int[] answers() {\n" + example
            + "return new int[] {" + String.join(", ", names) + "};\n}\n}\n");
        String path = System.getProperty("java.class.path");
        int code = ToolProvider.getSystemJavaCompiler().run(null, null, null,
            "-cp", path, "-d", BUILD.toString(), source.toString());
        if (code != 0) {
            faults.add("the example does not compile");
            return new int[0];
        }
        try (URLClassLoader loader = new URLClassLoader(new URL[] {BUILD.toUri().toURL()})) {
            return (int[]) loader.loadClass("ReadmeExample").getMethod("answers").invoke(null);
        }
    }

    private static Set<String> callsIn(String page) {
        Set<String> calls = new TreeSet<>();
        Matcher call = CALL.matcher(page);
        while (call.find()) {
            int arguments = call.group(2).isEmpty() ? 0 : call.group(2).split(", ").length;
            calls.add(call.group(1) + " of " + arguments);
        }
        return calls;
    }

    private static Set<String> callsOfTheClass() {
        Set<String> calls = new TreeSet<>();
        for (Method method : SalonBook.class.getDeclaredMethods()) {
            if (Modifier.isPublic(method.getModifiers())) {
                calls.add(method.getName() + " of " + method.getParameterCount());
            }
        }
        return calls;
    }

    private static Set<String> testsIn(String page) {
        Set<String> tests = new TreeSet<>();
        Matcher test = TEST.matcher(page);
        while (test.find()) {
            tests.add(test.group(1));
        }
        return tests;
    }

    private static Set<String> testsOfTheProject() throws IOException {
        Set<String> tests = new TreeSet<>();
        try (Stream<Path> files = Files.list(Path.of("src/test/java"))) {
            for (Path file : files.toList()) {
                String name = file.getFileName().toString();
                if (name.endsWith("Test.java")) {
                    tests.add(name.substring(0, name.length() - ".java".length()));
                }
            }
        }
        return tests;
    }

    private static void checkSame(String kind, Set<String> told, Set<String> there) {
        for (String one : there) {
            if (!told.contains(one)) {
                faults.add("the page lacks a " + kind + ": " + one);
            }
        }
        for (String one : told) {
            if (!there.contains(one)) {
                faults.add("the page tells a " + kind + " that is not there: " + one);
            }
        }
    }
}
