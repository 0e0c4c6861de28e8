import java.io.IOException;
import java.nio.file.DirectoryStream;
import java.nio.file.Files;
import java.nio.file.Path;
import java.util.TreeSet;
import java.util.regex.Matcher;
import java.util.regex.Pattern;

/** The tests of bounds go by sentences of every term and every promise. */
public final class SentencesTest {
    private static final Check check = new Check("SentencesTest");

    public static void main(String[] args) throws IOException {
        TreeSet<String> places = new TreeSet<>();
        try (DirectoryStream<Path> files = Files.newDirectoryStream(Path.of("src/test/java"), "*BoundsTest.java")) {
            for (Path file : files) {
                Matcher m = Pattern.compile("check\\.by\\(\"([^\"]+)\", \"").matcher(Files.readString(file));
                while (m.find()) {
                    places.add(m.group(1));
                }
            }
        }
        for (int promise = 1; promise <= 37; promise++) {
            check.due("a sentence of promise " + promise, places.contains("Promise " + promise) ? 1 : 0, 1);
        }
        for (String term : new String[] {"I", "II", "III", "IV"}) {
            check.due("a sentence of term " + term, places.contains("Term " + term) ? 1 : 0, 1);
        }
        check.finish();
    }
}
