import java.io.IOException;
import java.nio.file.Files;
import java.nio.file.Path;
import java.util.List;

/** The example of README.md does what it says there, and the methods it tells are all that the document has. */
public final class ReadmeTest {
    private static final Check CHECK = new Check("ReadmeTest");

    private ReadmeTest() {
    }

    public static void main(String[] args) throws IOException {
        runTheExample();
        String readme = Files.readString(Path.of("README.md"));
        dueSameLines(readme, Files.readString(Path.of("src", "test", "java", "ReadmeTest.java")));
        dueAllMethods(readme);
        CHECK.finish();
    }

    private static void runTheExample() {
        // the example
        SealLine line = new SealLine();
        int text = line.source(0, 1000L);                          // hand 0 keeps a text: file 0
        long hash = line.mix(2, text, SealLine.NONE, SealLine.NONE);
        int made = line.build(1, 2, text, SealLine.NONE, SealLine.NONE, hash);
        line.feed('r' << 24 | '>' << 16 | '0' << 8);               // the tape: r>0
        int rule = line.rule();                                    // 0, in force from now on
        line.review(5, made, true);
        line.ask(made);
        line.uses(0, 1);                                           // key 0 may seal once
        int seal = line.seal(6, 7, 0);                             // 0, the first seal
        int last = line.proof(made, 1);                            // 1, the note of the build
        int called = line.recall(1, 2, 0);                         // 1: what tool 2 built is called back
        int stands = line.sealed(seal, 6);                         // 0: its seal no longer stands
        // its end
        int[] got = {text, made, rule, seal, last, called, stands};
        int[] want = {0, 1, 0, 0, 1, 1, 0};
        for (int i = 0; i < want.length; i++) {
            CHECK.due("answer " + i, got[i], want[i]);
        }
    }

    private static void dueSameLines(String readme, String test) {
        List<String> told = readme.substring(readme.indexOf("```java\n") + 8).lines()
            .takeWhile(line -> !line.equals("```")).toList();
        List<String> run = test.substring(test.indexOf("// the example\n") + 15).lines()
            .takeWhile(line -> !line.endsWith("// its end")).map(String::strip).toList();
        CHECK.due("the example has lines", told.size() > 5, true);
        CHECK.due("the example is the one that was run", told.equals(run), true);
    }

    private static void dueAllMethods(String readme) throws IOException {
        for (String member : new Document().face()) {
            if (member.contains("(")) {
                String call = member.replaceAll("public \\w+ (?=\\w+\\()|\\b(int|long|boolean|public) |;", "");
                CHECK.due("README.md tells " + call, readme.contains("`" + call + "`"), true);
            }
        }
    }
}
