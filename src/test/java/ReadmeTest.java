import java.io.IOException;
import java.nio.file.Files;
import java.nio.file.Path;
import java.util.regex.Matcher;
import java.util.regex.Pattern;

/** The example of README.md: each call answers what stands behind it. */
public final class ReadmeTest {
    private static final Pattern CALL = Pattern.compile("street\\.(\\w+)\\((.*?)\\);\\s*// (-?\\d+)\\b.*");
    private static final int FEWEST_CALLS = 10;

    public static void main(String[] args) throws IOException {
        Check check = new Check("ReadmeTest");
        ChalkSquares street = new ChalkSquares();
        int calls = 0;
        for (String line : Files.readAllLines(Path.of("README.md"))) {
            Matcher m = CALL.matcher(line);
            if (m.matches()) {
                calls++;
                check.due(m.group(), new Call(m.group(1), numbers(m.group(2))).on(street), Long.parseLong(m.group(3)));
            } else {
                check.holds("a call, with its answer: " + line, !line.startsWith("street."));
            }
        }
        check.holds("there is an example", calls >= FEWEST_CALLS);
        check.end();
    }

    /** The numbers as Java reads them: octal ones begin with 0, hexadecimal ones with 0x. */
    private static long[] numbers(String arguments) {
        if (arguments.isEmpty()) {
            return new long[0];
        }
        String[] told = arguments.split(", ");
        long[] numbers = new long[told.length];
        for (int i = 0; i < told.length; i++) {
            numbers[i] = Long.decode(told[i]);
        }
        return numbers;
    }
}
