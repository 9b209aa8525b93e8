import java.io.IOException;
import java.nio.file.Files;
import java.nio.file.Path;
import java.util.List;

/** That README.md has the document's words for each method and term, and that its example's answers are right. */
public final class ReadmeTest {
    private static final Checks CHECKS = new Checks();

    public static void main(String[] args) throws IOException {
        List<String> readme = Files.readAllLines(Path.of("README.md"));
        documentsWords(String.join("\n", readme), Files.readAllLines(Path.of("../shared/DOC.md")));
        example(readme);
        CHECKS.end("ReadmeTest");
    }

    private static void documentsWords(String readme, List<String> document) {
        CHECKS.sentence("README: each method of the public face, in the document's words");
        int from = document.indexOf("## Terms");
        int to = document.indexOf("## Not promised");
        CHECKS.due("the document has its terms and promises", from >= 0 && from < to ? 1 : 0, 1);
        for (int i = Math.max(from, 0); i < to; i++) {
            String line = document.get(i).trim();
            if (!line.isEmpty() && !line.startsWith("#") && !line.startsWith("```")) {
                CHECKS.due("has '" + line + "'", readme.contains(line) ? 1 : 0, 1);
            }
        }
    }

    /** The calls of README's example, in its order. */
    private static void example(List<String> readme) {
        CHECKS.sentence("README: the example's answers");
        RecordMatch match = new RecordMatch();
        told(readme, "match.record(1);", match.record(1));
        told(readme, "match.record(5);", match.record(5));
        int one = 1;
        int other = 2;
        int title = match.field(one, 0);
        told(readme, "match.field(one, 0);", title);
        told(readme, "match.field(other, 0);", match.field(other, 0));
        told(readme, "match.field(one, 1);", match.field(one, 1));
        told(readme, "match.field(other, 1);", match.field(other, 1));
        told(readme, "match.field(other, 2);", match.field(other, 2));
        Checks.type(match, title, "The great Wall");
        Checks.type(match, 2, "Great wall, the");
        Checks.type(match, 3, "1998");
        Checks.type(match, 4, "c1999");
        Checks.type(match, 5, "0-306-40615-2");
        told(readme, "match.isbn(other, 0);", match.isbn(other, 0));
        told(readme, "match.candidates(one);", match.candidates(one));
        told(readme, "match.at(0);", match.at(0));
        told(readme, "match.index(other, 0);", match.index(other, 0));
        told(readme, "match.index(other, 1);", match.index(other, 1));
        told(readme, "match.weight(1, 1, 2);", match.weight(1, 1, 2));
        told(readme, "match.score(one, other, 0);", match.score(one, other, 0));
        told(readme, "match.score(one, other, 1);", match.score(one, other, 1));
        told(readme, "match.locked(one, true);", match.locked(one, true));
        told(readme, "match.merge(one, other);", match.merge(one, other));
        told(readme, "match.winner(other, title);", match.winner(other, title));
        told(readme, "match.undo(other);", match.undo(other));
    }

    /** The answer is the number with which the comment behind the call begins. */
    private static void told(List<String> readme, String call, long got) {
        for (String line : readme) {
            if (line.matches(".*\\Q" + call + "\\E\\s+// -?\\d+.*")) {
                String comment = line.substring(line.indexOf("// ") + 3);
                CHECKS.due(call, got, Long.parseLong(comment.split("[^-\\d]")[0]));
                return;
            }
        }
        CHECKS.due(call + " in README.md", 0, 1);
    }
}
