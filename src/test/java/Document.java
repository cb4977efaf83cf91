import java.io.IOException;
import java.nio.file.Files;
import java.nio.file.Path;
import java.util.ArrayList;
import java.util.List;

/** The parts of ../shared/DOC.md, with one blank wherever it has several or goes on in a new line. */
final class Document {
    static final int PROMISES = 29;
    private static final Path PATH = Path.of("..", "shared", "DOC.md");

    private final String text;

    Document() throws IOException {
        text = Files.readString(PATH);
    }

    /** From the heading of a promise to the next heading; all ahead of promise 1 for 0. */
    String part(int promise) {
        String marked = text.replaceAll("```(text)?", " ");
        int from = promise == 0 ? 0 : marked.indexOf("## Promise " + promise + ":");
        int to = marked.indexOf(promise == 0 ? "## Promise 1:" : "\n## ", from + 1);
        return from < 0 || to < 0 ? "" : marked.substring(from, to).replaceAll("\\s+", " ");
    }

    /** What a part says: without its headings, its signature, the public face and the marks between its chapters. */
    String sayings(int promise) {
        String part = part(promise);
        if (promise > 0) {
            return part.substring(part.indexOf("`: ") + 3);
        }
        return part.replaceAll("## The public face .*?(?=## )", "")
            .replaceAll("# SealLine |## What it is |## Terms |==== \\d\\. ", "");
    }

    /** The signature that stands ahead of what a promise says. */
    String signature(int promise) {
        return part(promise).replaceAll(".*? `(.*?)`: .*", "$1");
    }

    /** The members that the public face tells, a line each. */
    List<String> face() {
        List<String> members = new ArrayList<>();
        for (String line : text.substring(text.indexOf("```java"), text.indexOf("## Terms")).split("\n")) {
            if (line.startsWith("    ")) {
                members.add(line.strip());
            }
        }
        return members;
    }
}
