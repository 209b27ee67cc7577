import java.nio.charset.StandardCharsets;
import java.nio.file.Files;
import java.nio.file.Path;
import java.util.regex.Matcher;
import java.util.regex.Pattern;

/** The calls that README.md shows, one after the other on one object, answer what stands behind them. */
public final class ReadmeTest {
    private static final Check CHECK = new Check("ReadmeTest");
    private static final Pattern CALL = Pattern.compile("x\\.(\\w+\\([-0-9, ]*\\)); +// (-?\\d+):? .*");
    private static final Pattern READ = Pattern.compile("read\\(x, \"(.*)\"\\); +// (-?\\d+):? .*");

    private ReadmeTest() {
    }

    public static void main(String[] args) throws Exception {
        UpTheFlue x = new UpTheFlue();
        int shown = 0;
        for (String line : Files.readAllLines(Path.of("README.md"), StandardCharsets.UTF_8)) {
            Matcher call = CALL.matcher(line);
            Matcher read = READ.matcher(line);
            if (call.matches()) {
                CHECK.due(call.group(1), Script.call(x, call.group(1)), Long.parseLong(call.group(2)));
            } else if (read.matches()) {
                CHECK.due(read.group(1), Check.text(x, read.group(1)), Long.parseLong(read.group(2)));
            } else {
                CHECK.isTrue("a call without an answer: " + line, !line.startsWith("x.") && !line.startsWith("read("));
                continue;
            }
            shown++;
        }
        CHECK.isTrue("README.md shows calls", shown > 40);
        CHECK.end();
    }
}
