import java.io.IOException;
import java.nio.file.DirectoryStream;
import java.nio.file.Files;
import java.nio.file.Path;
import java.util.regex.Matcher;
import java.util.regex.Pattern;

/** Each promise of the document has a case among the tests of edges, so that none is left out by oversight. */
public final class EveryPromiseTest {
    private static final int PROMISES = 42;

    public static void main(String[] args) throws IOException {
        Check check = new Check("EveryPromiseTest");
        int[] cases = new int[PROMISES + 1];
        Pattern about = Pattern.compile("about\\((\\d+), \"");
        try (DirectoryStream<Path> tests = Files.newDirectoryStream(Path.of("src/test/java"), "*EdgesTest.java")) {
            for (Path test : tests) {
                Matcher matcher = about.matcher(Files.readString(test));
                while (matcher.find()) {
                    int promise = Integer.parseInt(matcher.group(1));
                    check.yes("promise " + promise + " in " + test, promise >= 1 && promise <= PROMISES);
                    cases[Math.min(Math.max(promise, 0), PROMISES)]++;
                }
            }
        }
        for (int promise = 1; promise <= PROMISES; promise++) {
            check.yes("promise " + promise + " has a case", cases[promise] > 0);
        }
        check.finish();
    }
}
