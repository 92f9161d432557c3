import java.io.IOException;
import java.nio.file.Files;
import java.nio.file.Path;
import java.util.regex.Matcher;
import java.util.regex.Pattern;

/** The calls that README.md shows under 'Use' answer what stands behind them. Run in the project's folder. */
public final class ReadmeTest {
    private static final Pattern SHOWN = Pattern.compile("^desk\\.(\\w+\\(.*?\\));(?: *// ([^\\s:]+))?", Pattern.MULTILINE);

    public static void main(String[] args) throws IOException {
        Script script = new Script();
        script.run("README.md", rowsIn(Files.readString(Path.of("README.md"))));
        script.end();
    }

    private static String rowsIn(String page) {
        StringBuilder rows = new StringBuilder();
        Matcher shown = SHOWN.matcher(page);
        while (shown.find()) {
            rows.append(shown.group(1)).append(' ').append(shown.group(2)).append('\n');
        }
        if (rows.isEmpty()) {
            throw new AssertionError("README.md shows no calls");
        }
        return rows.toString();
    }
}
