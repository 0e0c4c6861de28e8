/** SEEN SIGNS at their bounds (the end of term IV, promises 33 to 37), sentence by sentence. */
public final class DiaryBoundsTest {
    private static final Check check = new Check("DiaryBoundsTest");
    private static final String TWO = Hires.TWO;
    private static final String SURE = Hires.SURE;
    private static final int MIN = Integer.MIN_VALUE;
    private static final int MAX = Integer.MAX_VALUE;

    public static void main(String[] args) {
        eightSigns();
        stepsOfTelling();
        neverFalling();
        laterStep();
        twentyTimes();
        knownThen();
        see();
        right();
        odds();
        guess();
        count();
        check.finish();
    }

    private static void isOdds(String name, PaidBySigns x, int a, int known, long upper, long lower) {
        check.due(name + " odds(" + a + ", " + known + ")", x.odds(a, known), 1);
        check.fraction(name, x, upper, lower);
    }

    private static void eightSigns() {
        check.by("Term IV", "SEEN SIGNS, at most 8, numbered from 0");
        PaidBySigns x = Check.hired(TWO);
        for (int k = 0; k < 8; k++) {
            check.due("see(0, 1)", x.see(0, 1), k);
            check.due("count(0)", x.count(0), k + 1);
        }
        check.due("the ninth", x.see(0, 1), -3);
        check.due("count(0)", x.count(0), 8);
        isOdds("4 by itself, eight times", x, 0, 0, 1, 65537);
        check.due("right(1, 7, 0)", x.right(1, 7, 0), 1);
        check.due("right(1, 8, 0)", x.right(1, 8, 0), -2);
        isOdds("the eighth one put RIGHT", x, 0, 1, 1, 4097);
        check.due("the ninth at a later STEP", x.see(2, 1), -3);
    }

    private static void stepsOfTelling() {
        check.by("Term IV", "a SIGN told at a STEP of telling (0 .. 999,");
        PaidBySigns x = Check.hired(TWO);
        for (int told : new int[] {-1, 1000, MIN, MAX}) {
            check.due("see(" + told + ", 0)", x.see(told, 0), -2);
            check.due("count(0)", x.count(0), 0);
        }
        check.due("see(0, 0)", x.see(0, 0), 0);
        for (int told : new int[] {-1, 1000, MIN, MAX}) {
            check.due("right(" + told + ", 0, 0)", x.right(told, 0, 0), -2);
            check.due("count(1)", x.count(1), 0);
        }
        check.due("right(999, 0, 1)", x.right(999, 0, 1), 1);
        check.due("see(999, 0)", x.see(999, 0), 1);
        check.due("see(1000, 0)", x.see(1000, 0), -2);
        check.due("right(1000, 0, 0)", x.right(1000, 0, 0), -2);
    }

    private static void neverFalling() {
        check.by("Term IV", "never falling)");
        PaidBySigns x = Check.hired(TWO);
        check.due("see(5, 0)", x.see(5, 0), 0);
        check.due("see(4, 0)", x.see(4, 0), -2);
        check.due("see(5, 0) again", x.see(5, 0), 1);
        check.due("right(7, 0, 1)", x.right(7, 0, 1), 1);
        check.due("see(6, 0) behind a putting RIGHT", x.see(6, 0), -2);
        check.due("right(6, 1, 1)", x.right(6, 1, 1), -2);
        check.due("right(7, 1, 1)", x.right(7, 1, 1), 1);
        check.due("see(7, 0)", x.see(7, 0), 2);
        check.due("see(9, 2) that is RANGE", x.see(9, 2), -2);
        check.due("right(9, 3, 0) that is RANGE", x.right(9, 3, 0), -2);
        check.due("right(9, 0, 2) that is RANGE", x.right(9, 0, 2), -2);
        check.due("see(1000, 0) that is RANGE", x.see(1000, 0), -2);
        check.due("odds(0, 999)", x.odds(0, 999), 1);
        check.due("guess(999)", x.guess(999), 1);
        check.due("see(7, 0) as none of these moved the STEP", x.see(7, 0), 3);
        x.see(7, 0);
        x.see(7, 0);
        x.see(7, 0);
        check.due("the eighth", x.see(7, 0), 7);
        check.due("see(9, 0) that is FULL", x.see(9, 0), -3);
        check.due("right(8, 0, 0) as it moved no STEP", x.right(8, 0, 0), 2);
    }

    private static void laterStep() {
        check.by("Term IV", "perhaps put RIGHT at a later one");
        PaidBySigns x = Check.hired(TWO);
        x.see(3, 0);
        check.due("right(3, 0, 1) at its own STEP", x.right(3, 0, 1), -2);
        check.due("count(1)", x.count(1), 0);
        check.due("right(4, 0, 1) at the next one", x.right(4, 0, 1), 1);
        x.see(4, 0);
        check.due("right(4, 0, 0) of an earlier one", x.right(4, 0, 0), 2);
        check.due("right(4, 1, 1) of one told just then", x.right(4, 1, 1), -2);
        x.see(999, 0);
        check.due("right(999, 2, 1): there is no later one", x.right(999, 2, 1), -2);
        check.due("right(999, 1, 1)", x.right(999, 1, 1), 1);
    }

    private static void twentyTimes() {
        check.by("Term IV", "(at most 20 times in all)");
        PaidBySigns x = Check.hired(TWO);
        x.see(0, 0);
        x.see(0, 0);
        for (int i = 1; i <= 19; i++) {
            check.due("right(" + i + ", 0, 1)", x.right(i, 0, 1), i);
            check.due("count(1)", x.count(1), i);
        }
        check.due("the twentieth, of the other one", x.right(20, 1, 1), 1);
        check.due("the 21st of the first", x.right(30, 0, 0), -3);
        check.due("the 21st of the other", x.right(30, 1, 0), -3);
        check.due("count(1)", x.count(1), 20);
        isOdds("high and high", x, 1, 999, 16, 17);
        check.due("see(20, 0) as FULL moved no STEP", x.see(20, 0), 2);
        check.due("right(30, 2, 0) of one that never was", x.right(30, 2, 0), -3);
    }

    private static void knownThen() {
        check.by("Term IV", "the product of its chances of all SEEN SIGNS known then, over the sum of these products of all "
            + "WORKS");
        PaidBySigns x = Check.hired(TWO);
        isOdds("none is known", x, 0, 0, 1, 2);
        isOdds("none is known", x, 0, 999, 1, 2);
        x.see(5, 1);
        x.see(7, 1);
        x.right(9, 0, 0);
        isOdds("a STEP ahead", x, 1, 4, 1, 2);
        isOdds("at that STEP", x, 1, 5, 4, 5);
        isOdds("behind it", x, 1, 6, 4, 5);
        isOdds("the second", x, 1, 7, 16, 17);
        isOdds("a STEP ahead of the putting RIGHT", x, 1, 8, 16, 17);
        isOdds("at that of the putting RIGHT", x, 1, 9, 1, 2);
        isOdds("the last STEP", x, 1, 999, 1, 2);
        x.see(999, 0);
        isOdds("ahead of the last STEP", x, 1, 998, 1, 2);
        isOdds("told at the last STEP", x, 1, 999, 1, 5);
    }

    private static void see() {
        check.by("Promise 33", "A SEEN SIGN told at a STEP: its number; RANGE: no such STEP, SIGN; FULL.");
        int[][] wrong = {{8, 0}, {0, 0}, {-1, 0}, {1000, 0}, {MIN, 0}, {MAX, 0}, {9, -1}, {9, 2}, {9, 3}, {9, MIN}, {9, MAX}};
        for (int[] one : wrong) {
            check.refused("see(" + one[0] + ", " + one[1] + ")", y -> y.see(one[0], one[1]), -2);
        }
        check.withoutHire("see(0, 0)", y -> y.see(0, 0), -2);
        PaidBySigns x = Check.hired(Hires.MOST);
        for (int s = 0; s < 4; s++) {
            check.due("see(0, " + s + ")", x.see(0, s), s);
        }
        check.due("see(0, 4)", x.see(0, 4), -2);
        for (int k = 4; k < 8; k++) {
            check.due("see(1, 0)", x.see(1, 0), k);
        }
        check.due("RANGE ahead of FULL: the STEP", x.see(0, 0), -2);
        check.due("RANGE ahead of FULL: the SIGN", x.see(1, 4), -2);
        String before = State.seenBy(x);
        check.due("FULL", x.see(1, 0), -3);
        check.due("FULL leaves all", before.equals(State.seenBy(x)) ? 1 : 0, 1);
    }

    private static void right() {
        check.by("Promise 34", "One of them is put RIGHT at a STEP: how often it was; RANGE; FULL.");
        int[][] wrong = {{8, 0, 1}, {-1, 0, 1}, {1000, 0, 1}, {MIN, 0, 1}, {MAX, 0, 1}, {10, -1, 1}, {10, 2, 1},
            {10, 8, 1}, {10, MIN, 1}, {10, MAX, 1}, {10, 0, -1}, {10, 0, 2}, {10, 0, MIN}, {10, 0, MAX}};
        for (int[] one : wrong) {
            check.refused("right(" + one[0] + ", " + one[1] + ", " + one[2] + ")",
                y -> y.right(one[0], one[1], one[2]), -2);
        }
        check.withoutHire("right(1, 0, 0)", y -> y.right(1, 0, 0), -2);
        PaidBySigns x = Check.hired(TWO);
        x.see(0, 0);
        x.see(0, 0);
        check.due("the first, once", x.right(1, 0, 1), 1);
        check.due("the first, twice", x.right(1, 0, 0), 2);
        check.due("the second, once", x.right(1, 1, 1), 1);
        check.due("the first, to what it is", x.right(1, 0, 0), 3);
        for (int i = 5; i <= 20; i++) {
            x.right(1, 1, 1);
        }
        check.due("count(1)", x.count(1), 20);
        check.due("RANGE ahead of FULL: the STEP", x.right(0, 0, 0), -2);
        check.due("RANGE ahead of FULL: the SEEN SIGN", x.right(1, 2, 0), -2);
        check.due("RANGE ahead of FULL: the SIGN", x.right(1, 0, 2), -2);
        String before = State.seenBy(x);
        check.due("FULL", x.right(1, 0, 1), -3);
        check.due("FULL leaves all", before.equals(State.seenBy(x)) ? 1 : 0, 1);
        Check.hire(x, TWO);
        x.see(0, 0);
        check.due("counted anew with another HIRE", x.right(1, 0, 1), 1);
    }

    private static void odds() {
        check.by("Promise 35", "ODDS of a WORK as known at a STEP are the FRACTION: 1; NONE: all products are 0; RANGE.");
        int[][] wrong = {{-1, 0}, {3, 0}, {MIN, 0}, {MAX, 0}, {0, -1}, {0, 1000}, {0, MIN}, {0, MAX}};
        for (int[] one : wrong) {
            check.refused("odds(" + one[0] + ", " + one[1] + ")", y -> y.odds(one[0], one[1]), -2);
        }
        check.withoutHire("odds(0, 0)", y -> y.odds(0, 0), -2);
        PaidBySigns x = Check.hired(SURE);
        x.see(0, 0);
        isOdds("a product of 0", x, 1, 0, 0, 1);
        isOdds("10 to 5", x, 0, 0, 2, 3);
        x.see(0, 1);
        isOdds("all of it", x, 2, 0, 1, 1);
        x.see(1, 2);
        for (int a = 0; a < 3; a++) {
            check.due("odds(" + a + ", 1)", x.odds(a, 1), -1);
        }
        check.fraction("NONE leaves the FRACTION", x, 1, 1);
        isOdds("ahead of it", x, 0, 0, 0, 1);
        x = Check.hired("sign a brings 0;sign b brings 0;work x costs 0 chances 10 0;work y costs 0 chances 1 9;");
        for (int k = 0; k < 8; k++) {
            x.see(0, 0);
        }
        isOdds("the greatest product to the least", x, 0, 0, 100000000, 100000001);
        isOdds("the least product", x, 1, 0, 1, 100000001);
    }

    private static void guess() {
        check.by("Promise 36", "The WORK with the greatest ODDS as known at a STEP, of alike ones the least; NONE: all "
            + "products are 0; RANGE; STATE: no HIRE.");
        for (int known : new int[] {-1, 1000, MIN, MAX}) {
            check.refused("guess(" + known + ")", y -> y.guess(known), -2);
            check.withoutHire("guess(" + known + ")", y -> y.guess(known), -2);
        }
        check.withoutHire("guess(0)", y -> y.guess(0), -4);
        check.withoutHire("guess(999)", y -> y.guess(999), -4);
        PaidBySigns x = Check.hired(TWO);
        check.due("alike as none is known", x.guess(0), 0);
        check.due("alike as none is known", x.guess(999), 0);
        x.see(5, 1);
        check.due("a STEP ahead", x.guess(4), 0);
        check.due("at that STEP", x.guess(5), 1);
        x.see(5, 0);
        check.due("alike again", x.guess(5), 0);
        x = Check.hired(SURE);
        x.see(0, 1);
        check.due("0 to 10 to 5", x.guess(0), 1);
        x.right(1, 0, 0);
        check.due("10 to 0 to 5", x.guess(1), 0);
        x.right(2, 0, 2);
        check.due("all products are 0", x.guess(2), -1);
        check.due("a STEP ahead of that", x.guess(1), 0);
    }

    private static void count() {
        check.by("Promise 37", "What 0: SEEN SIGNS, 1: puttings RIGHT, 2: D, 3: bytes of THE TAPE. NONE for others.");
        PaidBySigns x = State.rich();
        x.feed(0, 0, 0, 0, 0);
        int[] due = {2, 1, 5, 20};
        for (int what = -5; what < 50; what++) {
            check.due("count(" + what + ")", x.count(what), what >= 0 && what < 4 ? due[what] : -1);
        }
        check.due("count(MIN)", x.count(MIN), -1);
        check.due("count(MAX)", x.count(MAX), -1);
        int[] first = {0, 0, 1, 0};
        for (int what = 0; what < 4; what++) {
            int which = what;
            check.withoutHire("count(" + what + ")", y -> y.count(which), first[what]);
        }
        check.withoutHire("count(4)", y -> y.count(4), -1);
        check.withoutHire("count(-1)", y -> y.count(-1), -1);
    }
}
