import java.io.IOException;
import java.nio.file.Files;
import java.nio.file.Path;
import java.util.ArrayList;
import java.util.List;
import java.util.regex.Matcher;
import java.util.regex.Pattern;

/**
 * Those rules of LANGUAGE.md that a look at the text can tell. It reads the file by its path
 * from the project's root, where .ci/run runs it.
 */
public final class LanguageTest {
    private static final String[] FORBIDDEN = {
        "->", "::", "\\btry\\b", "\\bcatch\\b", "\\bfinally\\b", "\\bsynchronized\\b",
        "\\bassert\\b", "\\bstatic\\s*\\{", "\\bpackage\\b", "\\bequals\\b", "\\bhashCode\\b",
        "\\btoString\\b", "\\bSystem\\.(?!arraycopy)", "\\bThread\\b", "\\bRandom\\b", "\\bvar\\b"};

    public static void main(String[] args) throws IOException {
        List<String> faults = new ArrayList<>();
        String source = Files.readString(Path.of("src/main/java/SalonBook.java"));
        String code = source.replaceAll("(?s)/\\*.*?\\*/", "").replaceAll("//.*", "")
            .replaceAll("\"[^\"]*\"", "\"\"");
        for (String word : FORBIDDEN) {
            Matcher matcher = Pattern.compile(word).matcher(code);
            if (matcher.find()) {
                faults.add("not allowed: " + matcher.group());
            }
        }
        Matcher imports = Pattern.compile("import ([^;]*);").matcher(code);
        while (imports.find()) {
            if (!List.of("java.util.ArrayList", "java.util.NoSuchElementException")
                    .contains(imports.group(1))) {
                faults.add("import of " + imports.group(1));
            }
        }
        faults.forEach(System.out::println);
        if (!faults.isEmpty()) {
            System.exit(1);
        }
        System.out.println("the text keeps to the rules that were looked for");
    }
}
