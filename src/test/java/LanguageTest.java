import java.io.IOException;
import java.nio.file.Files;
import java.nio.file.Path;
import java.util.List;
import java.util.regex.Pattern;

/** Rules of the language that the source shows; it is run in the folder of the project. */
public final class LanguageTest {
    private static final Path SOURCE = Path.of("src", "main", "java", "PollYard.java");
    private static final List<String> FORBIDDEN = List.of(
            "\\b(package|throw|throws|try|catch|synchronized|assert|native|volatile|transient|strictfp)\\b",
            "\\b(protected|var|Object|Thread|Random|Scanner|File|Exception|Error)\\b",
            "\\bimport (?!java\\.util\\.(ArrayList|List|Arrays|Iterator);)", "\\bSystem\\b(?!\\.arraycopy)",
            "->", "::", "\\bstatic\\s*\\{", "\\b(equals|hashCode|toString)\\s*\\(", "\\w+Exact\\b", "@",
            "while\\s*\\(true\\)", "for\\s*\\(\\s*;");
    private static final int MOST_LINES_OF_A_METHOD = 60;

    public static void main(String[] args) throws IOException {
        String code = withoutComments(Files.readString(SOURCE));
        for (String forbidden : FORBIDDEN) {
            Due.is("'" + forbidden + "' in the source", Pattern.compile(forbidden).matcher(code).find(), false);
        }
        Due.is("characters beyond ASCII", code.chars().anyMatch(c -> c > 126), false);
        methodsAreShort(code);
        Due.end();
    }

    private static String withoutComments(String text) {
        return text.replaceAll("(?s)/\\*.*?\\*/", "").replaceAll("//[^\\n]*", "");
    }

    private static void methodsAreShort(String code) {
        int lines = 0;
        String method = "";
        for (String line : code.split("\n")) {
            boolean begins = line.matches(" {4,8}[a-zA-Z].*\\) \\{") && !line.matches(" *(if|for|while|switch) .*");
            method = begins ? line.trim() : method;
            lines = begins ? 0 : lines + 1;
            if (line.matches(" {4}(    )?\\}")) {
                Due.is("too long: " + method, lines > MOST_LINES_OF_A_METHOD, false);
            }
        }
    }
}
