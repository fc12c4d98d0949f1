import java.io.IOException;
import java.nio.file.Files;
import java.nio.file.Path;
import java.util.regex.Matcher;
import java.util.regex.Pattern;

/** README.md tells the truth: its example answers what stands behind each line, and its table has every call. */
public final class ReadmeTest {
    private static final Check T = new Check("readme");
    private static final Edges E = new Edges(T);
    private static final Pattern LINE = Pattern.compile("(?m)^wax\\.(\\w+\\([^)]*\\));\\s*// (-?\\w+)\\b");
    private static final Pattern ROW = Pattern.compile("(?m)^\\| `(\\w+)\\(([^)]*)\\)` \\|");

    public static void main(String[] args) throws IOException {
        String readme = Files.readString(Path.of("README.md"));
        theExample(readme);
        theTable(readme);
        T.end();
    }

    private static void theExample(String readme) {
        StringBuilder script = new StringBuilder();
        int lines = 0;
        for (Matcher m = LINE.matcher(readme); m.find(); lines++) {
            script.append(m.group(1).replace("WaxVoices.", "")).append('=').append(m.group(2)).append(' ');
        }
        T.due("lines of the example that tell an answer", lines, readme.split("\nwax\\.", -1).length - 1);
        E.run("the example", script.toString());
    }

    private static void theTable(String readme) {
        int row = 0;
        for (Matcher m = ROW.matcher(readme); m.find() && row < Op.values().length; row++) {
            Op op = Op.values()[row];
            T.holds("row " + row + " of the calls is " + op, op.name().equals(m.group(1)));
            int parameters = m.group(2).isEmpty() ? 0 : m.group(2).split(",").length;
            T.due("parameters of " + op, parameters, op.arity);
        }
        T.due("rows of the calls", row, Op.values().length);
    }
}
