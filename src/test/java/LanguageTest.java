import java.io.IOException;
import java.nio.file.Files;
import java.nio.file.Path;
import java.util.regex.Matcher;
import java.util.regex.Pattern;

/** The rules of ../shared/LANGUAGE.md that can be read off the program's text. Runs in the project's folder. */
public final class LanguageTest {
    private static final Checks CHECKS = new Checks();

    public static void main(String[] args) throws IOException {
        String source = Files.readString(Path.of("src/main/java/CapitalReckoner.java"));
        String code = source.replaceAll("(?s)/\\*.*?\\*/", "").replaceAll("//[^\n]*", "").replaceAll("\"[^\"]*\"", "\"\"");
        none(code, "rule 1: a package line", "\\bpackage\\b");
        none(code, "rule 4: an import or another library", "\\bimport\\b|\\bjava\\.|\\bSystem\\.(?!arraycopy)");
        none(code, "rule 4: an Exact function", "\\w+Exact\\b");
        none(code, "rule 2: a lambda or a method reference", "->|::");
        none(code, "rule 6: a catch, a finally, or what is synchronized or asserted", "\\b(try|catch|finally|synchronized|assert)\\b");
        none(code, "rule 9: a loop without an end of its own", "\\bwhile\\b|for \\([^;]*; *;");
        none(code, "rule 5: a static field that is not final", "\\bstatic (?!final\\b)[\\w\\[\\]<>]+ \\w+ *[=;]");
        none(code, "rule 5: a static block", "\\bstatic *\\{");
        none(code, "rule 3: a var or Object", "\\bvar\\b|\\bObject\\b");
        CHECKS.due("rule 1: its own classes are private and static", count(code, "\\bclass\\b") - 1,
            count(code, "private static final class \\w+"));
        CHECKS.due("rule 6: only these exceptions are thrown", count(code, "\\bthrow\\b"),
            count(code, "throw new (IndexOutOfBoundsException|IllegalArgumentException|IllegalStateException)\\(\"\"\\);"));
        CHECKS.due("signs are ASCII", source.chars().allMatch(c -> c < 127), true);
        CHECKS.end("LanguageTest");
    }

    private static void none(String code, String what, String pattern) {
        Matcher m = Pattern.compile(pattern).matcher(code);
        CHECKS.due(what, m.find() ? m.group() : "none", "none");
    }

    private static int count(String code, String pattern) {
        return (int) Pattern.compile(pattern).matcher(code).results().count();
    }
}
