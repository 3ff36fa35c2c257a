import java.io.IOException;
import java.nio.file.Files;
import java.nio.file.Path;
import java.util.regex.Matcher;
import java.util.regex.Pattern;

/** What of LANGUAGE.md can be seen by looking for signs in the source; the rest is for readers. */
public final class LanguageTest {
    private static final String[] RULED_OUT = {
        "\\bcatch\\b", "\\bfinally\\b", "\\bsynchronized\\b", "\\bassert\\b", "->", "::", "\\w*Exact\\(",
        "\\b(equals|hashCode|toString)\\s*\\(", "\\bprotected\\b", "\\bSystem\\.(?!arraycopy\\()",
        "\\bMath\\.", "\\bnative\\b", "\\b(double|float)\\b", "\\bwhile\\s*\\(true\\)", "for \\(;;\\)", "^package\\b",
        "\\bstatic\\s*\\{", "\\bjava\\.(?!util\\.ArrayList;)", "\\b(Object|Throwable|Exception|Error)\\b",
    };

    public static void main(String[] args) throws IOException {
        String source = Files.readString(Path.of("src/main/java/TicketChain.java"));
        Due.is("signs above 127", source.chars().filter(sign -> sign > 127).count(), 0);
        String code = source.replaceAll("(?s)/\\*.*?\\*/", "").replaceAll("//[^\n]*", "")
            .replaceAll("\"[^\"\n]*\"", "\"\"");
        for (String form : RULED_OUT) {
            Matcher found = Pattern.compile(form, Pattern.MULTILINE).matcher(code);
            Due.is("the form " + form, found.find() ? found.group() : "", "");
        }
        Due.is("texts joined by +", Pattern.compile("\"\"\\s*\\+|\\+\\s*\"\"").matcher(code).find(), false);
        throwsOfTheFace(code);
        methodLengths(code);
        Due.end();
    }

    /** One throw only: the exception that the document names, where it names it. */
    private static void throwsOfTheFace(String code) {
        Matcher thrown = Pattern.compile("\\bthrow\\b[^;]*").matcher(code);
        StringBuilder all = new StringBuilder();
        while (thrown.find()) {
            all.append(thrown.group()).append(';');
        }
        Due.is("what is thrown", all.toString(), "throw new ArrayIndexOutOfBoundsException(\"\");");
    }

    private static void methodLengths(String code) {
        String[] lines = code.split("\n");
        int start = -1;
        String indent = "";
        for (int k = 0; k < lines.length; k++) {
            Matcher head = Pattern.compile("^( {4}| {8})(?!\\s)[^=;]*\\([^;=]*\\{$").matcher(lines[k]);
            if (head.find()) {
                start = k;
                indent = head.group(1);
            } else if (start >= 0 && lines[k].equals(indent + "}")) {
                Due.is("a short method: " + lines[start].strip(), k - start < 60, true);
                start = -1;
            }
        }
    }
}
