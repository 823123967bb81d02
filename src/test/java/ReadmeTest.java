import java.io.IOException;
import java.nio.file.Files;
import java.nio.file.Path;
import java.util.regex.Matcher;
import java.util.regex.Pattern;

/** The run in README.md has the answers that its comments tell. */
final class ReadmeTest {
    private static final Pattern LINE = Pattern.compile("m\\.(\\w+)\\((.*?)\\); +// (-?\\d+).*");

    public static void main(String[] args) throws IOException {
        SequentMachine machine = new SequentMachine();
        int lines = 0;
        for (String line : Files.readAllLines(Path.of("README.md"))) {
            Matcher matcher = LINE.matcher(line);
            if (matcher.matches()) {
                lines++;
                String call = (matcher.group(1) + " " + matcher.group(2).replace(",", "")).trim();
                Bench.check("README.md: " + line, Bench.perform(machine, call), Integer.parseInt(matcher.group(3)));
            }
        }
        Bench.check("README.md has a run", lines > 20, true);
        Bench.close("ReadmeTest");
    }
}
