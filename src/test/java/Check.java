/** Counts the answers that are not as due, and feeds texts. */
final class Check {
    private final String name;
    private int wrong = 0;
    private int calls = 0;

    Check(String name) {
        this.name = name;
    }

    void due(String call, long got, long want) {
        calls++;
        if (got != want) {
            wrong++;
            if (wrong <= 40) {
                System.out.println(name + ": " + call + " answered " + got + ", due is " + want);
            }
        }
    }

    /** The FRACTION that was told last. */
    void fraction(String call, PaidBySigns x, long upper, long lower) {
        due(call + " upper", x.upper(), upper);
        due(call + " lower", x.lower(), lower);
    }

    void noFraction(String call, PaidBySigns x) {
        fraction(call, x, -2000000000L, 0);
    }

    int wrong() {
        return wrong;
    }

    void finish() {
        System.out.println(name + ": " + calls + " answers, " + wrong + " not as due");
        if (wrong != 0) {
            System.exit(1);
        }
    }

    static void tape(PaidBySigns x, String text) {
        x.end(0);
        StringBuilder padded = new StringBuilder(text);
        while (padded.length() % 20 != 0) {
            padded.append(' ');
        }
        for (int at = 0; at < padded.length(); at += 20) {
            x.feed(four(padded, at), four(padded, at + 4), four(padded, at + 8), four(padded, at + 12),
                four(padded, at + 16));
        }
        x.end(text.length());
    }

    static int hire(PaidBySigns x, String text) {
        tape(x, text);
        return x.hire();
    }

    static PaidBySigns hired(String text) {
        PaidBySigns x = new PaidBySigns();
        if (hire(x, text) < 0) {
            throw new IllegalArgumentException("no hire: " + text + " fault " + x.fault(0) + " at " + x.fault(1));
        }
        return x;
    }

    private static int four(CharSequence text, int at) {
        int sum = 0;
        for (int i = 0; i < 4; i++) {
            sum = sum << 8 | text.charAt(at + i) & 255;
        }
        return sum;
    }
}
