import java.io.IOException;
import java.nio.file.Files;
import java.nio.file.Path;
import java.util.List;
import java.util.regex.Matcher;
import java.util.regex.Pattern;

/** Looks in the source for what LANGUAGE.md rules out and a search for words can find. */
public final class LanguageTest {
    private static final Path SOURCE = Path.of("src/main/java/ChairStamps.java");
    private static final String[] RULED_OUT = {
        "\\bpackage\\b", "\\bimport\\b", "->", "::", "\\w+Exact\\b", "\\bsynchronized\\b", "\\bassert\\b",
        "\\bfinally\\b", "\\bcatch\\b", "\\btry\\b", "\\bSystem\\.(?!arraycopy)", "\\bThread\\b", "\\bRandom\\b",
        "\\bString\\.format\\b", "\\bequals\\b", "\\bhashCode\\b", "\\btoString\\b", "\\bvar\\b", "\\bObject\\b",
        "\"\"\\s*\\+|\\+\\s*\"\"", "\\bstatic\\s*\\{",
        "Math\\.(?!max|min|abs|floorDiv|floorMod)", "[^\\x00-\\x7f]",
    };
    // Only here may a row be reached by an index: each of them looks at the index itself.
    private static final String INDEXED = "return index >= 0 && index < row\\.length \\? row\\[index] : 0;"
        + "|row\\[index] = value;|row\\[i] = value;|to\\[i] = from\\[i];|places\\[i] = new Office\\(\\);"
        + "|return index >= 0 && index < places\\.length \\? places\\[index] : null;";

    private static final Check CHECK = new Check();

    public static void main(String[] args) throws IOException {
        List<String> lines = Files.readAllLines(SOURCE);
        int methodLines = 0;
        for (int i = 0; i < lines.size(); i++) {
            String code = code(lines.get(i));
            for (String rule : RULED_OUT) {
                look(rule, code, i);
            }
            if (Pattern.compile("\\w\\[[^\\]]").matcher(code.replaceAll("new \\w+\\[", "")).find()) {
                CHECK.same("line " + (i + 1) + " has an index unlooked at", code.trim().matches(INDEXED) ? 0 : 1, 0);
            }
            if (code.matches("(    )?    (?!    ).*\\{")) {
                methodLines = i;
            }
            if (code.matches("        }") || code.matches("    }")) {
                CHECK.same("line " + (i + 1) + " ends a long method", i - methodLines > 60 ? 1 : 0, 0);
            }
        }
        CHECK.end();
    }

    /** A line without its comment and its texts. */
    private static String code(String line) {
        String bare = line.replaceAll("\"[^\"]*\"", "\"\"").replaceAll("//.*", "");
        return bare.trim().startsWith("*") || bare.trim().startsWith("/*") ? "" : bare;
    }

    private static void look(String rule, String code, int line) {
        Matcher m = Pattern.compile(rule).matcher(code);
        CHECK.same("line " + (line + 1) + ": " + rule, m.find() ? 1 : 0, 0);
    }
}
