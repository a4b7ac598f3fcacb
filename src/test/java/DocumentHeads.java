import java.io.IOException;
import java.nio.file.Files;
import java.nio.file.Path;

/** What the document says between its terms and its promises: the heads of the groups of calls. */
final class DocumentHeads {
    private DocumentHeads() {
    }

    static void all(Path source) throws IOException {
        String text = Files.readString(source);
        int from = 0;
        from = head(text, from, "the line", "feed", "line", "fault", "told", "wire", "cell", "place", "gate");
        from = head(text, from, "deeds", "tick", "drive", "cut", "brief", "mend", "piece", "end", "ohms", "quiet", "drift",
            "undo");
        from = head(text, from, "tried", "volts", "rest", "sees", "noNoise");
        from = head(text, from, "what is seen", "see", "couldBe", "look", "write", "judge", "tear");
        head(text, from, "images", "seed", "keep", "goBack");
    }

    /** The head stands ahead of its calls, and these in their order; where the last of them is. */
    private static int head(String text, int from, String head, String... calls) {
        Sentences.says("Ahead of the calls `" + String.join("`, `", calls) + "` the interface says: ---- " + head + ".");
        int at = text.indexOf("// ---- " + head + "\n", from);
        Sentences.holds("the head", at >= 0);
        for (String call : calls) {
            int next = text.indexOf("public int " + call + "(", Math.max(0, at));
            Sentences.holds(call + " comes next", next > at);
            at = next;
        }
        return Math.max(0, at);
    }
}
