import java.io.IOException;
import java.nio.file.Files;
import java.nio.file.Path;

/** The examples of README.md, word for word, so that they can't grow stale. */
final class ReadmeTest {
    private static final Check CHECK = new Check();

    public static void main(String[] args) throws IOException {
        program();
        console();
        examplesAreThoseOfReadme();
        CHECK.end();
    }

    private static void program() {
        VirtioMachine m = new VirtioMachine();
        m.poke(0, 0x02A00093);
        CHECK.due("run", m.run(1), 1);
        CHECK.due("x1", m.register(1), 42);
        CHECK.due("PC", m.register(32), 4);
    }

    private static void console() {
        VirtioMachine m = new VirtioMachine();
        m.out(12288 + 112, 3);
        m.out(12288 + 36, 1);
        m.out(12288 + 32, 1);
        m.out(12288 + 112, 15);
        m.out(12288 + 48, 1);
        m.out(12288 + 56, 2);
        m.out(12288 + 128, 1024);
        m.out(12288 + 144, 1056);
        m.out(12288 + 160, 1064);
        m.out(12288 + 68, 1);
        m.poke(2048, 'H' | 'i' << 8);
        m.poke(1024, 2048);
        m.poke(1032, 2);
        m.poke(1056, 1 << 16);
        m.serve();
        CHECK.due("how many", m.printed(-1), 2);
        CHECK.due("first character", m.printed(0), 72);
        CHECK.due("used flags and index", m.peek(1064), 65536);
        CHECK.due("interrupt status", m.in(12288 + 96), 1);
    }

    /** Each statement stands above, and a comment that begins with a number is the answer that is due above. */
    private static void examplesAreThoseOfReadme() throws IOException {
        String here = Files.readString(Path.of("src/test/java/ReadmeTest.java"));
        boolean inExample = false;
        int lines = 0;
        for (String line : Files.readAllLines(Path.of("README.md"))) {
            if (line.startsWith("```")) {
                inExample = line.equals("```java");
            } else if (inExample) {
                lines++;
                CHECK.due("is tested: " + line, here.contains(asTested(line)), true);
            }
        }
        CHECK.due("the lines of the examples", lines, 25);
    }

    private static String asTested(String line) {
        String[] parts = line.split("; *// *", 2);
        String answer = parts.length == 2 ? parts[1].split(":", 2)[0] : "";
        return answer.matches("-?[0-9]+") ? ", " + parts[0] + ", " + answer + ");" : " " + parts[0];
    }
}
