import java.io.IOException;
import java.nio.file.Files;
import java.nio.file.Path;

/**
 * Walks the document from its first line to its last: each quote must go on where the last one ended, so that no
 * sentence is left out, and is held to by at least one answer asked behind it.
 */
final class Sentences {
    private static String document = "";
    private static int cursor = 0;
    private static String words = "";
    private static int asked = 1;

    private Sentences() {
    }

    /** The terms and the promises, without headings and without the heads of the calls (LanguageTest has those). */
    static void open(Path path) throws IOException {
        if (!Files.exists(path)) {
            System.out.println("there is no " + path + " here: what is quoted is not compared with it");
            return;
        }
        String text = Files.readString(path);
        int first = text.indexOf("## Terms");
        int last = text.indexOf("## Not promised");
        Due.holds("the document has terms and an end", first >= 0 && last > first);
        if (first >= 0 && last > first) {
            document = text.substring(first, last)
                .replaceAll("(?m)^(#|```).*$", "")
                .replaceAll("(?m)^======== \\d ", "")
                .replaceAll("(?m)^`[^`]*`: ", "")
                .replaceAll("\\s+", " ");
        }
    }

    /** What is asked from here on holds to these words of the document. */
    static void says(String quote) {
        Due.holds("something is asked about '" + words + "'", asked > 0);
        words = quote;
        asked = 0;
        if (document.isEmpty()) {
            return;
        }
        int at = document.indexOf(quote, cursor);
        boolean goesOn = at >= 0 && isBetweenWords(document.substring(cursor, at));
        if (!goesOn) {
            String next = document.substring(cursor, Math.min(document.length(), cursor + 60));
            Due.holds("the document goes on with '" + next + "', not with '" + quote + "'", false);
        }
        cursor = at >= 0 ? at + quote.length() : cursor;
    }

    static void close() {
        Due.holds("something is asked about '" + words + "'", asked > 0);
        String rest = document.substring(cursor);
        Due.holds("all of the document is quoted, but for '" + rest + "'", isBetweenWords(rest));
    }

    private static boolean isBetweenWords(String part) {
        return part.chars().noneMatch(Character::isLetterOrDigit);
    }

    static void is(String call, long got, long want) {
        asked++;
        Due.is("'" + words + "': " + call, got, want);
    }

    static void holds(String claim, boolean so) {
        is(claim, so ? 1 : 0, 1);
    }

    /** The text is told to a new object: what line() and fault() answer. */
    static void read(String text, int line, int fault) {
        EdgeEchoes x = new EdgeEchoes();
        is("line of '" + text + "'", Due.told(x, text), line);
        is("fault of '" + text + "'", x.fault(), fault);
    }

    static EdgeEchoes high(String text) {
        EdgeEchoes x = Due.lineOf(text);
        x.drive(true);
        return x;
    }

    /** ON and BACK of a cell. */
    static void waves(EdgeEchoes x, String when, int i, int on, int back) {
        is(when + ": ON of " + i, x.cell(i, 1) - 1000000, on);
        is(when + ": BACK of " + i, x.cell(i, 2) - 1000000, back);
    }

    /** The call, made where each stand leads, is refused so, and a twin that did not hear it answers alike. */
    static void refused(Iterable<Twins.Stand> stands, String call, Twins.Call made, int want) {
        for (Twins.Stand stand : stands) {
            asked++;
            Twins.refused(stand, "'" + words + "': " + call, made, want);
        }
    }
}
