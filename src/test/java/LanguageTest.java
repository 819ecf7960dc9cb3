import java.io.IOException;
import java.nio.charset.StandardCharsets;
import java.nio.file.Files;
import java.nio.file.Path;
import java.util.Map;
import java.util.TreeMap;
import java.util.regex.Matcher;
import java.util.regex.Pattern;

/** What can be seen of ../shared/LANGUAGE.md in the text of the class; run from the folder of the project. */
public final class LanguageTest {
    private static final Check c = new Check();

    private static final String[] RULED_OUT = {
        "\\b(throw|throws|try|catch|synchronized|assert)\\b", "->", "::", "\\bpackage\\b", "\\bprotected\\b",
        "Exact\\b", "\\b(Random|Thread|File|System\\.(?!arraycopy))", "\\.(equals|hashCode|toString)\\(",
        "\\bstatic\\s*\\{", "\\bimport (?!java\\.util\\.Arrays;)", "[^\\x00-\\x7f]", "\"\\s*\\+|\\+\\s*\""};
    private static final Pattern METHOD = Pattern.compile(
        "\n( +)(?!for|if|while|switch|else)[\\w\\[\\] ]*\\b(\\w+)\\(([^()]*)\\) (\\{\n(?s:.*?)\n\\1\\}\n)");
    private static final int LINES_MOST = 60;
    private static final int PARAMETERS_MOST = 7;
    private static final int DEEP_MOST = 8;

    /** By its name, what stands in a method; those of one name are taken together. */
    private final Map<String, String> bodies = new TreeMap<>();

    public static void main(String[] args) throws IOException {
        String text = Files.readString(Path.of("src/main/java/SundayVisits.java"), StandardCharsets.ISO_8859_1);
        String code = text.replaceAll("(?s)/\\*.*?\\*/", "").replaceAll("//[^\n]*", "");
        for (String rule : RULED_OUT) {
            Matcher m = Pattern.compile(rule).matcher(code);
            if (m.find()) {
                c.fail("ruled out: " + m.group() + " by " + rule);
            }
        }
        new LanguageTest().methods(code);
        c.end();
    }

    private void methods(String code) {
        Matcher m = METHOD.matcher(code);
        int last = 0;
        // The line's end behind one method may be the one ahead of the next.
        while (m.find(last)) {
            method(m.group(2), m.group(3), m.group(4));
            last = m.end() - 1;
        }
        if (bodies.size() < 40) {
            c.fail("only " + bodies.size() + " methods seen");
        }
        for (String name : bodies.keySet()) {
            depth(name, 1, name);
        }
    }

    /** Rules 11 and 12: some sixty lines, at most seven parameters; objects are made in constructors alone. */
    private void method(String name, String parameters, String body) {
        bodies.merge(name, body, String::concat);
        if (body.lines().count() > LINES_MOST) {
            c.fail("long: " + name);
        }
        if (parameters.split(",").length > PARAMETERS_MOST) {
            c.fail("many parameters: " + name);
        }
        if (Character.isLowerCase(name.charAt(0)) && Pattern.compile("\\bnew\\b").matcher(body).find()) {
            c.fail("makes an object: " + name);
        }
    }

    /** Rule 11: calls go at most eight deep; the class needs no recursion, which would go deeper, too. */
    private void depth(String name, int deep, String way) {
        if (deep > DEEP_MOST) {
            c.fail("deep: " + way);
            return;
        }
        for (String called : bodies.keySet()) {
            if (Pattern.compile("\\b" + called + "\\(").matcher(bodies.get(name)).find()) {
                depth(called, deep + 1, way + " > " + called);
            }
        }
    }
}
