import java.io.File;
import java.io.IOException;
import java.lang.reflect.Method;
import java.nio.file.Files;
import java.nio.file.Path;
import java.util.Arrays;

/** Each sentence of the document is said by a test, and each test says one that is there. */
public final class SentencesTest {
    private static final Path DOCUMENT = Path.of("../shared/DOC.md");
    private static final int PROMISES = 32;
    /** Words that promise nothing which the sentences beside them do not promise too. */
    private static final String NO_SENTENCE = "CHAIRS, FLOORS|GUILDS, TESTS|WEAR|SETTINGS|TEXT|ACTIONS AND UNDO|EXCEPTIONS"
        + "|It tells how much .* Changes can be undone|The constants|Ahead of the calls [a-zA-Z, ]* the interface says"
        + "|text|what there is|actions|scripts, simulations|save slots"
        + "|Returns a number of a (chair|leg)|Returns a setting|Tells how much a chair wobbles"
        + "|c: chair|f: floor|g: guild|k: leg|k: spot|what|way"
        + "|Returns that (number|bound|setting)|Returns its height";

    private static final Check CHECK = new Check();

    public static void main(String[] args) throws IOException, ReflectiveOperationException {
        String[] sections = sections(plain(Files.readString(DOCUMENT)));
        boolean[][] said = new boolean[PROMISES + 1][];
        for (int i = 0; i <= PROMISES; i++) {
            said[i] = new boolean[sections[i].length()];
        }
        String[] files = new File("src/test/java").list((folder, name) -> name.matches("EdgesOf\\w+Test\\.java"));
        Arrays.sort(files);
        for (String file : files) {
            for (Method method : Class.forName(file.replace(".java", "")).getDeclaredMethods()) {
                if (Edges.isTest(method)) {
                    mark(method, sections, said);
                }
            }
        }
        for (int i = 0; i <= PROMISES; i++) {
            lookForUnsaid(i, sections[i], said[i]);
        }
        CHECK.end();
    }

    /** The document without its marks, and with one blank for each run of blanks. */
    private static String plain(String text) {
        return text.replace("`", "").replaceAll("\\s+", " ");
    }

    /** The terms, with what is said before the face; each promise behind the line that gives its call. */
    private static String[] sections(String document) {
        String[] found = new String[PROMISES + 1];
        found[0] = between(document, "fees that add up. ", " ## The public face ")
            + ' ' + between(document, "## Terms ", " ## Promise 1: ");
        for (int i = 1; i <= PROMISES; i++) {
            String section = between(document, "## Promise " + i + ": ", " ## ");
            found[i] = section.replaceFirst("^.*?\\)( throws [\\w, ]+)?: ", "");
        }
        return found;
    }

    private static String between(String text, String start, String end) {
        int from = text.indexOf(start) + start.length();
        return text.substring(from, text.indexOf(end, from));
    }

    private static void mark(Method method, String[] sections, boolean[][] said) {
        Says says = method.getAnnotation(Says.class);
        if (says == null) {
            CHECK.fault(method + " says no sentence");
            return;
        }
        String section = sections[says.promise()];
        int at = section.indexOf(says.sentence());
        CHECK.same(method.getDeclaringClass().getName() + "." + method.getName() + " says what is not there",
            at < 0 ? 1 : 0, 0);
        for (; at >= 0; at = section.indexOf(says.sentence(), at + 1)) {
            Arrays.fill(said[says.promise()], at, at + says.sentence().length(), true);
        }
    }

    private static void lookForUnsaid(int promise, String section, boolean[] said) {
        int start = 0;
        for (int i = 0; i <= section.length(); i++) {
            if (i == section.length() || said[i]) {
                String words = section.substring(start, i).replaceAll("^[^\\w(]+|[^\\w)]+$", "");
                boolean sentence = !words.isEmpty() && !allIn(words);
                CHECK.same((promise == 0 ? "Terms" : "Promise " + promise) + ", no test says \"" + words + "\"",
                    sentence ? 1 : 0, 0);
                start = i + 1;
            }
        }
    }

    /** What is left between said words may be several runs of words that are no sentence. */
    private static boolean allIn(String words) {
        return words.matches("(?:(?:" + NO_SENTENCE + ")\\W*)+");
    }
}
