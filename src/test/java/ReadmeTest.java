import java.io.IOException;
import java.nio.ByteBuffer;
import java.nio.charset.StandardCharsets;
import java.nio.file.Files;
import java.nio.file.Path;
import java.util.Arrays;
import java.util.regex.Matcher;
import java.util.regex.Pattern;

/** README.md's example: a reader who does as it says gets the answers that it says. */
public final class ReadmeTest {
    private static final Pattern TEXT = Pattern.compile("```text\n(.*?)```", Pattern.DOTALL);
    private static final Pattern ROW = Pattern.compile("(?m)^x\\.(\\w+\\([^)]*\\)); +// (-?\\d+)\\b");
    private static final Pattern TELL = Pattern.compile("(?m)^( *)static int tell\\(.*?^\\1}$", Pattern.DOTALL);

    private ReadmeTest() { }

    public static void main(String[] args) throws IOException {
        String readme = Files.readString(Path.of("README.md"));
        String text = found(TEXT, readme, 1);
        tellIsTheSame(readme);
        tells(text);
        answers(readme, text);
        everyAnswerBelowZero(readme);
        Check.finish();
    }

    static int tell(RookHusting x, String text) {
        byte[] bytes = text.getBytes(StandardCharsets.ISO_8859_1);
        ByteBuffer numbers = ByteBuffer.wrap(Arrays.copyOf(bytes, (bytes.length + 19) / 20 * 20));
        x.end(0);
        while (numbers.hasRemaining()) {
            x.feed(numbers.getInt(), numbers.getInt(), numbers.getInt(), numbers.getInt(), numbers.getInt());
        }
        x.end(bytes.length);
        return x.hundred(); // how many LINES; -4: a FAULT, told by fault(0), its place by fault(1)
    }

    private static String found(Pattern pattern, String where, int group) {
        Matcher m = pattern.matcher(where);
        if (!m.find()) {
            throw new IllegalStateException("README.md lacks " + pattern);
        }
        return m.group(group);
    }

    private static void tellIsTheSame(String readme) throws IOException {
        String own = Files.readString(Path.of("src/test/java/ReadmeTest.java"));
        Check.that("README.md's tell is the one that is tested",
                found(TELL, readme, 0).equals(found(TELL, own, 0).replaceAll("(?m)^ {4}", "")));
    }

    /** Behind a FAULT, too, a text is told as if the TAPE were empty. */
    private static void tells(String text) {
        RookHusting x = new RookHusting();
        Check.due("tell of the example", tell(x, text), 8);
        Check.due("tell of a bad text", tell(x, text + "hedge 0 0;"), -4);
        Check.due("its FAULT", x.fault(0), 2);
        Check.due("its place", x.fault(1), text.length() + 8);
        Check.due("tell behind a FAULT", tell(x, "hundred days 1 law 0 odds 0;"), 1);
        Check.due("tell of nothing", tell(x, ""), 0);
    }

    private static void answers(String readme, String text) {
        Run run = Run.told("README.md", text);
        Matcher row = ROW.matcher(readme);
        int rows = 0;
        while (row.find()) {
            run.due(row.group(1), Long.parseLong(row.group(2)));
            rows++;
        }
        long written = readme.lines().filter(line -> line.startsWith("x.")).count();
        Check.due("calls of README.md that were tried", rows, written);
        Check.that("README.md has calls", written > 0);
    }

    private static void everyAnswerBelowZero(String readme) {
        for (String answer : new String[] {"-1 (`NONE`)", "-2", "-3", "-4", "-5", "-6", "-7", "-8", "-1000"}) {
            Check.that("README.md tells of " + answer, readme.contains("| " + answer + " |"));
        }
    }
}
