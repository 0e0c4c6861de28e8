/** What he did, guessed from SEEN SIGNS (promises 33 to 37). */
public final class DiaryTest {
    private static final Check check = new Check("DiaryTest");
    private static final String TWO = Hires.TWO;
    private static final String SURE = Hires.SURE;

    public static void main(String[] args) {
        see();
        right();
        odds();
        asKnown();
        guess();
        count();
        check.finish();
    }

    private static void odds(String call, PaidBySigns x, int a, int known, long upper, long lower) {
        check.due(call, x.odds(a, known), 1);
        check.fraction(call, x, upper, lower);
    }

    private static void see() {
        PaidBySigns x = Check.hired(TWO);
        check.due("see(-1, 0)", x.see(-1, 0), -2);
        check.due("see(1000, 0)", x.see(1000, 0), -2);
        check.due("see(0, 2)", x.see(0, 2), -2);
        check.due("see(0, -1)", x.see(0, -1), -2);
        check.due("see(0, 0)", x.see(0, 0), 0);
        check.due("see(5, 0)", x.see(5, 0), 1);
        check.due("see(4, 0)", x.see(4, 0), -2);
        check.due("see(5, 1)", x.see(5, 1), 2);
        check.due("see(900, 2) moves no STEP", x.see(900, 2), -2);
        for (int k = 3; k < 8; k++) {
            check.due("see(6, 1)", x.see(6, 1), k);
        }
        check.due("the ninth", x.see(999, 1), -3);
        check.due("the ninth at a wrong STEP", x.see(1000, 1), -2);
        check.due("the ninth of a wrong SIGN", x.see(999, 2), -2);
        check.due("count(0)", x.count(0), 8);
        check.due("FULL moves no STEP", x.right(7, 0, 1), 1);
        check.due("right(999, 0, 1)", x.right(999, 0, 1), 2);
    }

    private static void right() {
        PaidBySigns x = Check.hired(TWO);
        check.due("nothing to put RIGHT", x.right(1, 0, 0), -2);
        x.see(3, 0);
        x.see(4, 1);
        check.due("right(3, 0, 1) falls", x.right(3, 0, 1), -2);
        check.due("right(4, 1, 0) is no later STEP", x.right(4, 1, 0), -2);
        check.due("right(4, 0, 1)", x.right(4, 0, 1), 1);
        check.due("right(4, 0, 0) again", x.right(4, 0, 0), 2);
        check.due("right(5, 1, 0)", x.right(5, 1, 0), 1);
        check.due("right(4, 0, 0) falls", x.right(4, 0, 0), -2);
        check.due("see(4, 0) falls", x.see(4, 0), -2);
        check.due("right(5, 2, 0)", x.right(5, 2, 0), -2);
        check.due("right(5, -1, 0)", x.right(5, -1, 0), -2);
        check.due("right(5, 0, 2)", x.right(5, 0, 2), -2);
        check.due("right(5, 0, -1)", x.right(5, 0, -1), -2);
        check.due("right(1000, 0, 0)", x.right(1000, 0, 0), -2);
        check.due("right(-1, 0, 0)", x.right(-1, 0, 0), -2);
        check.due("count(1)", x.count(1), 3);
        for (int i = 4; i <= 20; i++) {
            check.due("right(6, 0, 1)", x.right(6, 0, 1), i - 1);
        }
        check.due("the 21st", x.right(7, 0, 1), -3);
        check.due("the 21st of none", x.right(7, 2, 1), -2);
        check.due("count(1)", x.count(1), 20);
        check.due("FULL moves no STEP", x.see(6, 1), 2);
    }

    private static void odds() {
        PaidBySigns x = Check.hired(TWO);
        odds("nothing seen", x, 0, 0, 1, 2);
        x.see(2, 1);
        odds("not yet known", x, 0, 1, 1, 2);
        odds("known", x, 0, 2, 1, 5);
        odds("known", x, 1, 999, 4, 5);
        check.due("odds(2, 0)", x.odds(2, 0), -2);
        check.due("odds(-1, 0)", x.odds(-1, 0), -2);
        check.due("odds(0, -1)", x.odds(0, -1), -2);
        check.due("odds(0, 1000)", x.odds(0, 1000), -2);
        check.fraction("keeps", x, 4, 5);
        x = Check.hired(SURE);
        odds("of three", x, 2, 0, 1, 3);
        x.see(0, 0);
        odds("10 to 0 to 5", x, 0, 0, 2, 3);
        odds("10 to 0 to 5", x, 1, 0, 0, 1);
        odds("10 to 0 to 5", x, 2, 0, 1, 3);
        x.see(0, 1);
        odds("z alone", x, 2, 0, 1, 1);
        odds("z alone", x, 0, 0, 0, 1);
        x.see(1, 2);
        check.due("all products are 0", x.odds(2, 1), -1);
        check.fraction("keeps", x, 0, 1);
        odds("as known ahead of it", x, 2, 0, 1, 1);
        x = Check.hired(SURE);
        for (int k = 0; k < 8; k++) {
            x.see(0, 0);
        }
        odds("10 times 8 to 5 times 8", x, 0, 0, 256, 257);
        odds("10 times 8 to 5 times 8", x, 2, 0, 1, 257);
    }

    private static void asKnown() {
        PaidBySigns x = Check.hired(TWO);
        x.see(1, 1);
        x.see(3, 0);
        x.right(5, 0, 0);
        x.right(7, 1, 1);
        x.right(7, 0, 1);
        x.right(7, 0, 0);
        x.right(9, 0, 1);
        odds("at 0", x, 1, 0, 1, 2);
        odds("at 1", x, 1, 1, 4, 5);
        odds("at 2", x, 1, 2, 4, 5);
        odds("at 3", x, 1, 3, 1, 2);
        odds("at 4", x, 1, 4, 1, 2);
        odds("at 5: low, low", x, 1, 5, 1, 17);
        odds("at 6", x, 1, 6, 1, 17);
        odds("at 7: the last word of a STEP counts", x, 1, 7, 1, 2);
        odds("at 9: high, high", x, 1, 9, 16, 17);
    }

    private static void guess() {
        PaidBySigns x = new PaidBySigns();
        check.due("no HIRE", x.guess(0), -4);
        Check.hire(x, TWO);
        check.due("alike: the least", x.guess(0), 0);
        x.see(1, 1);
        check.due("guess(0)", x.guess(0), 0);
        check.due("guess(1)", x.guess(1), 1);
        x.see(2, 0);
        check.due("alike again", x.guess(2), 0);
        x.right(3, 0, 0);
        check.due("guess(3)", x.guess(3), 0);
        check.due("guess(-1)", x.guess(-1), -2);
        check.due("guess(1000)", x.guess(1000), -2);
        check.due("guess(999)", x.guess(999), 0);
        check.noFraction("guess tells none", x);
        Check.hire(x, SURE);
        x.see(0, 1);
        check.due("the second", x.guess(0), 1);
        x.see(0, 0);
        check.due("the third", x.guess(0), 2);
        x.see(0, 2);
        check.due("all products are 0", x.guess(0), -1);
    }

    private static void count() {
        PaidBySigns x = Check.hired(TWO);
        x.see(0, 0);
        x.see(0, 0);
        x.right(1, 1, 1);
        x.by(77);
        x.feed(0, 0, 0, 0, 0);
        x.end(13);
        check.due("count(0)", x.count(0), 2);
        check.due("count(1)", x.count(1), 1);
        check.due("count(2)", x.count(2), 77);
        check.due("count(3)", x.count(3), 13);
        check.due("count(4)", x.count(4), -1);
        check.due("count(-1)", x.count(-1), -1);
        check.due("count(MAX)", x.count(Integer.MAX_VALUE), -1);
    }
}
