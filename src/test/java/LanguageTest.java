import java.io.IOException;
import java.nio.charset.StandardCharsets;
import java.nio.file.Files;
import java.nio.file.Path;
import java.util.regex.Matcher;
import java.util.regex.Pattern;

/** What can be seen of ../shared/LANGUAGE.md in the text of the class; run from the folder of the project. */
public final class LanguageTest {
    private static final Check c = new Check();

    private static final String[] RULED_OUT = {
        "\\b(throw|throws|try|catch|synchronized|assert)\\b", "->", "::", "\\bpackage\\b", "\\bprotected\\b",
        "Exact\\b", "\\b(Random|Thread|File|System\\.(?!arraycopy))", "\\.(equals|hashCode|toString)\\(",
        "\\bstatic\\s*\\{", "\\bimport (?!java\\.util\\.Arrays;)", "[^\\x00-\\x7f]", "\"\\s*\\+|\\+\\s*\""};

    public static void main(String[] args) throws IOException {
        String text = Files.readString(Path.of("src/main/java/SundayVisits.java"), StandardCharsets.ISO_8859_1);
        String code = text.replaceAll("(?s)/\\*.*?\\*/", "").replaceAll("//[^\n]*", "");
        for (String rule : RULED_OUT) {
            Matcher m = Pattern.compile(rule).matcher(code);
            if (m.find()) {
                c.fail("ruled out: " + m.group() + " by " + rule);
            }
        }
        shortMethods(code);
        c.end();
    }

    /** Rule 11: some sixty lines a method, seven parameters at the most. */
    private static void shortMethods(String code) {
        Matcher m = Pattern.compile("\n( +)(?!for|if|while|switch|else)[\\w\\[\\] ]+\\(([^()]*)\\) \\{\n(?s:.*?)\n\\1\\}\n")
            .matcher(code);
        int methods = 0;
        while (m.find()) {
            methods++;
            if (m.group().lines().count() > 60) {
                c.fail("long:" + m.group());
            }
            if (m.group(2).split(",").length > 7) {
                c.fail("many parameters:" + m.group());
            }
        }
        if (methods < 40) {
            c.fail("only " + methods + " methods seen");
        }
    }
}
