import java.io.IOException;
import java.nio.file.Files;
import java.nio.file.Path;
import java.util.function.ToLongFunction;

/** Counts the answers that are not as due, and feeds texts. */
final class Check {
    private final String name;
    private String document = null;
    private String sentence = "";
    private int wrong = 0;
    private int calls = 0;

    Check(String name) {
        this.name = name;
    }

    /** The sentence of the document by which the answers that follow are due, with the place where it stands. */
    void by(String place, String words) {
        sentence = place + ": \"" + words + "\": ";
        if (document == null) {
            document = readDocument();
        }
        // Where the document is not at hand (the tests run from elsewhere), nothing is compared.
        due("is a sentence of the document", document.isEmpty() || document.contains(words) ? 1 : 0, 1);
    }

    private static String readDocument() {
        Path path = Path.of("..", "shared", "DOC.md");
        try {
            return Files.exists(path) ? Files.readString(path) : "";
        } catch (IOException e) {
            return "";
        }
    }

    void due(String call, long got, long want) {
        calls++;
        if (got != want) {
            wrong++;
            if (wrong <= 40) {
                System.out.println(name + ": " + sentence + call + " answered " + got + ", due is " + want);
            }
        }
    }

    /** The FRACTION that was told last. */
    void fraction(String call, PaidBySigns x, long upper, long lower) {
        due(call + " upper", x.upper(), upper);
        due(call + " lower", x.lower(), lower);
    }

    void noFraction(String call, PaidBySigns x) {
        fraction(call, x, -2000000000L, 0);
    }

    /** A call on an object with much to tell: its answer is due, and it leaves all as it was. */
    void refused(String call, ToLongFunction<PaidBySigns> asked, long want) {
        PaidBySigns x = State.rich();
        String before = State.seenBy(x);
        due(call, asked.applyAsLong(x), want);
        String after = State.seenBy(x);
        due(call + " leaves all as it was: " + before + " and " + after, before.equals(after) ? 1 : 0, 1);
    }

    /** A call on a new object. */
    void withoutHire(String call, ToLongFunction<PaidBySigns> asked, long want) {
        due(call + " without a HIRE", asked.applyAsLong(new PaidBySigns()), want);
    }

    int wrong() {
        return wrong;
    }

    void finish() {
        System.out.println(name + ": " + calls + " answers, " + wrong + " not as due");
        if (wrong != 0) {
            System.exit(1);
        }
    }

    static void tape(PaidBySigns x, String text) {
        x.end(0);
        StringBuilder padded = new StringBuilder(text);
        while (padded.length() % 20 != 0) {
            padded.append(' ');
        }
        for (int at = 0; at < padded.length(); at += 20) {
            x.feed(four(padded, at), four(padded, at + 4), four(padded, at + 8), four(padded, at + 12),
                four(padded, at + 16));
        }
        x.end(text.length());
    }

    static int hire(PaidBySigns x, String text) {
        tape(x, text);
        return x.hire();
    }

    static PaidBySigns hired(String text) {
        PaidBySigns x = new PaidBySigns();
        if (hire(x, text) < 0) {
            throw new IllegalArgumentException("no hire: " + text + " fault " + x.fault(0) + " at " + x.fault(1));
        }
        return x;
    }

    private static int four(CharSequence text, int at) {
        int sum = 0;
        for (int i = 0; i < 4; i++) {
            sum = sum << 8 | text.charAt(at + i) & 255;
        }
        return sum;
    }
}
