import java.io.IOException;
import java.nio.file.Files;
import java.nio.file.Path;
import java.util.regex.Matcher;
import java.util.regex.Pattern;

/** The examples of README.md: each call there is made, and answers what stands behind it. */
final class ReadmeTest {
    private static final Path README = Path.of("README.md");
    private static final Pattern BLOCK = Pattern.compile("```java\n(.*?)```", Pattern.DOTALL);
    private static final Pattern TELL = Pattern.compile("tell\\(x, \"(.*)\"\\);");
    private static final Pattern FEED = Pattern.compile("x\\.feed\\(0x([0-9a-f]+)L, (\\d)\\);  // (\\d+).*");
    private static final Pattern CALL = Pattern.compile("x\\.(\\w+)\\(([-\\d, ]*)\\);  // (-?\\d+).*");

    private DustReads x;

    public static void main(String[] args) throws IOException {
        int blocks = 0;
        for (Matcher block = BLOCK.matcher(Files.readString(README)); block.find(); blocks++) {
            ReadmeTest example = new ReadmeTest();
            for (String line : block.group(1).split("\n")) {
                example.follow(line);
            }
        }
        Due.is("examples", blocks, 2);
        Due.end("ReadmeTest");
    }

    private void follow(String line) {
        Matcher tell = TELL.matcher(line);
        Matcher feed = FEED.matcher(line);
        Matcher call = CALL.matcher(line);
        if (line.equals("DustReads x = new DustReads();")) {
            x = new DustReads();
        } else if (tell.matches()) {
            Due.feed(x, tell.group(1));
        } else if (feed.matches()) {
            long w = Long.parseUnsignedLong(feed.group(1), 16);
            Due.is(line, x.feed(w, Integer.parseInt(feed.group(2))), Long.parseLong(feed.group(3)));
        } else if (call.matches()) {
            Due.is(line, Calls.make(x, call.group(1), numbers(call.group(2))), Long.parseLong(call.group(3)));
        } else {
            Due.is("not understood: " + line, 0, 1);
        }
    }

    private static int[] numbers(String told) {
        String[] each = told.isEmpty() ? new String[0] : told.split(", ");
        int[] given = new int[each.length];
        for (int k = 0; k < given.length; k++) {
            given[k] = Integer.parseInt(each[k]);
        }
        return given;
    }
}
