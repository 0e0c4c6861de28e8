/** The cheapest wages (promises 14 to 24). */
public final class CheapestTest {
    private static final Check check = new Check("CheapestTest");
    private static final String TWO = Hires.TWO;
    private static final String MEAN = Hires.MEAN;

    public static void main(String[] args) {
        make();
        makeWithSteps();
        alikeWages();
        keeps();
        seen();
        best();
        merged();
        coins();
        bar();
        crew();
        watch();
        wrongInputs();
        check.finish();
    }

    private static void one(String call, PaidBySigns x, int got, int want, long upper, long lower) {
        check.due(call, got, want);
        check.fraction(call, x, upper, lower);
    }

    private static void wages(String call, PaidBySigns x, long... upperAndLower) {
        for (int s = 0; 2 * s < upperAndLower.length; s++) {
            check.due(call + " wages(" + s + ", false)", x.wages(s, false), upperAndLower[2 * s]);
            check.due(call + " wages(" + s + ", true)", x.wages(s, true), upperAndLower[2 * s + 1]);
        }
        check.due(call + " no such SIGN", x.wages(upperAndLower.length / 2, false), -1);
        check.due(call + " no such SIGN", x.wages(-1, true), -1);
    }

    private static void make() {
        PaidBySigns x = Check.hired(TWO);
        one("make(1)", x, x.make(1), 1, 8, 1);
        wages("make(1)", x, 0, 1, 10, 1);
        one("make(0)", x, x.make(0), 1, 0, 1);
        wages("make(0)", x, 0, 1, 0, 1);
        // 6 (w1 - w0) >= 50: 25/3.
        x = Check.hired("sign a brings 10;sign b brings 100;work x costs 0 chances 8 2;"
            + "work y costs 5 chances 2 8;");
        one("a fraction", x, x.make(1), 1, 20, 3);
        wages("a fraction", x, 0, 1, 25, 3);
        // else binds: 2 w0 + 8 w1 >= 100, 6 (w1 - w0) >= 60; alike costs, so the least of SIGN 0.
        x = Check.hired(TWO + "else 4;");
        one("else", x, x.make(1), 1, 10, 1);
        wages("else", x, 0, 1, 25, 2);
        x = Check.hired(TWO + "least 3;");
        one("least", x, x.make(1), 1, 11, 1);
        wages("least", x, 3, 1, 13, 1);
        x = Check.hired(MEAN);
        check.due("can't be had", x.make(2), -1);
        check.noFraction("can't be had", x);
        wages("can't be had", x);
        one("the others can", x, x.make(1), 1, 4, 1);
        x = Check.hired(MEAN.replace("costs 3", "costs 2"));
        one("just as dear as the mean", x, x.make(2), 1, 2, 1);
        wages("just as dear as the mean", x, 0, 1, 4, 1);
    }

    private static void makeWithSteps() {
        // FEELING 20 above: 3 for each of 4 coins, 8 more at 2 each: 8 coins.
        PaidBySigns x = Check.hired(TWO.replace("costs 6", "costs 12") + "feel 3 4 2;");
        one("steps", x, x.make(1), 1, 32, 5);
        wages("steps", x, 0, 1, 8, 1);
        // From least 2 on: 6 by the first RATE, 14 at 2 each.
        x = Check.hired(TWO.replace("costs 6", "costs 12") + "feel 3 4 2;least 2;");
        one("steps above least", x, x.make(1), 1, 46, 5);
        wages("steps above least", x, 2, 1, 11, 1);
    }

    private static void alikeWages() {
        // Both SIGNS tell the works apart alike and cost alike: SIGN 0 takes the least it can.
        PaidBySigns x = Check.hired("whole 4;sign a brings 0;sign b brings 9;sign c brings 9;"
            + "work x costs 0 chances 4 0 0;work y costs 6 chances 0 2 2;feel 2 5 1;");
        // 2 u(b) + 2 u(c) >= 24: u(b) + u(c) >= 12, both by the RATE of 2: b 1, c 5.
        one("alike", x, x.make(1), 1, 3, 1);
        wages("alike", x, 0, 1, 1, 1, 5, 1);
        // A SIGN that never comes is paid least.
        x = Check.hired("whole 4;sign a brings 0;sign b brings 9;sign c brings 9;"
            + "work x costs 0 chances 0 4 0;work y costs 6 chances 0 2 2;least 2;");
        one("never comes", x, x.make(1), 1, 8, 1);
        wages("never comes", x, 2, 1, 2, 1, 14, 1);
    }

    /** NONE and RANGE leave the FRACTION and the WAGES. */
    private static void keeps() {
        PaidBySigns x = Check.hired(MEAN);
        one("make(1)", x, x.make(1), 1, 4, 1);
        check.due("make(2)", x.make(2), -1);
        check.due("make(3)", x.make(3), -2);
        check.fraction("keeps", x, 4, 1);
        wages("keeps", x, 0, 1, 4, 1);
        one("seen(2)", x, x.seen(2), 1, 3, 1);
        wages("seen keeps WAGES", x, 0, 1, 4, 1);
        check.due("coins(1, 3)", x.coins(1, 3), -1);
        check.fraction("coins(1, 3) keeps", x, 3, 1);
        wages("coins(1, 3) keeps", x, 0, 1, 4, 1);
        one("coins(0, 3)", x, x.coins(0, 3), 1, 0, 1);
        wages("coins tells WAGES", x, 0, 1, 0, 1);
        check.due("merged(1, 0, 1)", x.merged(1, 0, 1), -1);
        check.due("crew(2, 1)", x.crew(2, 1), -1);
        check.due("bar(2)", x.bar(2), -1);
        check.fraction("still", x, 0, 1);
    }

    private static void seen() {
        PaidBySigns x = Check.hired(TWO + "feel 4 1 3 2 2;else 5;");
        one("seen(0)", x, x.seen(0), 1, 4, 3);
        one("seen(1)", x, x.seen(1), 1, 4, 1);
        x = Check.hired(TWO + "least 7;");
        one("least is enough", x, x.seen(1), 1, 7, 1);
        x = Check.hired(TWO + "least 5;");
        one("least is too little", x, x.seen(1), 1, 6, 1);
        x = Check.hired(TWO + "least 6;feel 4;");
        one("least counts in coins", x, x.seen(1), 1, 6, 1);
        x = Check.hired(TWO + "feel 4;");
        one("a fraction", x, x.seen(1), 1, 3, 2);
        one("nothing", x, x.seen(0), 1, 0, 1);
        check.due("seen(2)", x.seen(2), -2);
        check.due("seen(-1)", x.seen(-1), -2);
    }

    private static void best() {
        PaidBySigns x = Check.hired(TWO);
        one("best()", x, x.best(), 1, 74, 1);
        check.due("best tells no WAGES", x.wages(0, false), -1);
        x = Check.hired("sign a brings 0;sign b brings 3;work x costs 0 chances 10 0;work y costs 5 chances 0 10;");
        one("less than nothing is not best", x, x.best(), 0, 0, 1);
        x = Check.hired("sign a brings 0;sign b brings 5;work x costs 0 chances 10 0;work y costs 5 chances 0 10;");
        one("alike: the least", x, x.best(), 0, 0, 1);
        x = Check.hired("sign a brings 0;sign b brings 6;work y costs 5 chances 0 10;work x costs 0 chances 10 0;");
        one("one more", x, x.best(), 0, 1, 1);
        x = Check.hired("sign a brings 0;sign b brings 0;work x costs 3 chances 5 5;work y costs 2 chances 5 5;"
            + "work z costs 4 chances 1 9;");
        one("below 0", x, x.best(), 1, -2, 1);
        x = Check.hired(MEAN.replace("brings 10", "brings 4") + "else 1;");
        one("only such as can be had", x, x.best(), 0, -1, 1);
    }

    private static void merged() {
        PaidBySigns x = Check.hired(TWO);
        check.due("merged(1, 0, 1)", x.merged(1, 0, 1), -1);
        one("merged(0, 1, 0)", x, x.merged(0, 1, 0), 1, 0, 1);
        check.due("merged(0, 0, 0)", x.merged(0, 0, 0), -2);
        check.due("merged(0, 0, 2)", x.merged(0, 0, 2), -2);
        check.due("merged(0, -1, 0)", x.merged(0, -1, 0), -2);
        check.due("merged(2, 0, 1)", x.merged(2, 0, 1), -2);
        // Apart: c tells y from x by 4 of 4. a and c as one: 2 of 4 against 0.
        x = Check.hired("whole 4;sign a brings 0;sign b brings 1;sign c brings 2;"
            + "work x costs 0 chances 2 2 0;work y costs 6 chances 0 0 4;");
        one("apart", x, x.make(1), 1, 6, 1);
        one("merged(1, 0, 2)", x, x.merged(1, 0, 2), 1, 12, 1);
        one("merged(1, 2, 0)", x, x.merged(1, 2, 0), 1, 12, 1);
        one("merged(1, 0, 1)", x, x.merged(1, 0, 1), 1, 6, 1);
        check.due("merged tells no WAGES anew", x.wages(2, false), 6);
    }

    private static void coins() {
        PaidBySigns x = Check.hired("sign a brings 10;sign b brings 100;work x costs 0 chances 8 2;"
            + "work y costs 5 chances 2 8;");
        one("coins(1, 20)", x, x.coins(1, 20), 1, 36, 5);
        wages("coins(1, 20)", x, 0, 1, 9, 1);
        one("coins(1, 9)", x, x.coins(1, 9), 1, 36, 5);
        check.due("coins(1, 8)", x.coins(1, 8), -1);
        check.due("coins(1, -1)", x.coins(1, -1), -2);
        check.due("coins(1, 21)", x.coins(1, 21), -2);
        check.due("coins(2, 5)", x.coins(2, 5), -2);
        check.due("coins(-1, 5)", x.coins(-1, 5), -2);
        check.fraction("keeps", x, 36, 5);
        one("coins(0, 0)", x, x.coins(0, 0), 1, 0, 1);
        x = Check.hired("sign a brings 10;sign b brings 100;work x costs 0 chances 8 2;"
            + "work y costs 5 chances 2 8;least 30;");
        check.due("least is added, 8", x.coins(1, 8), -1);
        one("least is added, 9", x, x.coins(1, 9), 1, 30 * 5 + 36, 5);
        wages("least is added", x, 30, 1, 39, 1);
        // b and c are alike in all: the least by SIGNS.
        x = Check.hired("whole 4;sign a brings 0;sign b brings 9;sign c brings 9;"
            + "work x costs 0 chances 4 0 0;work y costs 6 chances 0 2 2;feel 2 5 1;");
        one("alike", x, x.coins(1, 20), 1, 3, 1);
        wages("alike", x, 0, 1, 1, 1, 5, 1);
        one("alike under a bound", x, x.coins(1, 4), 1, 3, 1);
        wages("alike under a bound", x, 0, 1, 2, 1, 4, 1);
    }

    private static void bar() {
        PaidBySigns x = Check.hired(TWO);
        one("bar(1)", x, x.bar(1), 1, 8, 1);
        one("bar(0)", x, x.bar(0), 0, 0, 1);
        // A bar at b tells them apart by 4 of 6: always 6; one at c by 1 of 6: 24, a third of the time.
        x = Check.hired("whole 6;sign a brings 0;sign b brings 5;sign c brings 9;"
            + "work x costs 0 chances 4 1 1;work y costs 4 chances 0 4 2;");
        one("the bar in the middle", x, x.bar(1), 1, 6, 1);
        x = Check.hired("whole 6;sign a brings 0;sign b brings 9;sign c brings 5;"
            + "work x costs 0 chances 4 1 1;work y costs 4 chances 0 2 4;");
        one("by what they bring, not by their numbers", x, x.bar(1), 2, 6, 1);
        x = Check.hired("sign a brings 7;sign b brings 7;work x costs 0 chances 8 2;work y costs 6 chances 2 8;");
        check.due("one bar for all", x.bar(1), -1);
        one("the least SIGN of alike bars", x, x.bar(0), 0, 0, 1);
        x = Check.hired(TWO + "else 4;");
        one("else", x, x.bar(1), 1, 10, 1);
        // Both bars cost alike for rest: at low both are paid 4.
        x = Check.hired("sign low brings 100;sign high brings 10;work rest costs 4 chances 8 2;"
            + "work toil costs 9 chances 2 8;");
        one("alike in cost", x, x.bar(0), 0, 4, 1);
        x = Check.hired(TWO + "least 2;feel 3 4 1;");
        // u(2) = 6, 16 must be: 4 coins are 12, 4 more: 8; 0.8 x 8 + 0.2 x 2.
        one("steps and least", x, x.bar(1), 1, 34, 5);
        // More for high makes rest fall short: a bar that is too high breaks it.
        x = Check.hired("sign low brings 100;sign high brings 10;work rest costs 1 chances 2 8;"
            + "work toil costs 0 chances 8 2;");
        check.due("paying for toil's sign only hurts", x.bar(0), -1);
    }

    private static void crew() {
        PaidBySigns x = Check.hired(TWO);
        // 0.8 (0.8 - 0.2) x >= 6: 12.5, and paid with 0.64.
        one("crew(1, 1)", x, x.crew(1, 1), 1, 8, 1);
        check.due("crew(1, 0)", x.crew(1, 0), -1);
        one("crew(0, 0)", x, x.crew(0, 0), 1, 0, 1);
        check.due("crew(2, 0)", x.crew(2, 0), -2);
        check.due("crew(0, 2)", x.crew(0, 2), -2);
        check.due("crew(0, -1)", x.crew(0, -1), -2);
        check.due("crew(-1, 0)", x.crew(-1, 0), -2);
        x = Check.hired(TWO + "least 2;");
        one("least", x, x.crew(1, 1), 1, 10, 1);
        // 0.64 x 12.5 = 8 beyond costs leaves 2; else 4 asks for 10: x is 15.625.
        x = Check.hired(TWO + "else 4;");
        one("else", x, x.crew(1, 1), 1, 10, 1);
        x = Check.hired(TWO + "feel 2 5 1;");
        // FEELING 12.5: 5 coins are 10, 2.5 more: 7.5, times 0.64.
        one("steps", x, x.crew(1, 1), 1, 24, 5);
        x = Check.hired("sign a brings 1;sign b brings 2;work x costs 0 chances 10 0;work y costs 0 chances 4 6;"
            + "work z costs 9 chances 10 0;");
        one("never paid", x, x.crew(0, 1), 1, 0, 1);
        check.due("never paid and dearer", x.crew(2, 1), -1);
    }

    private static void watch() {
        PaidBySigns x = Check.hired(TWO);
        one("watch(1, 0)", x, x.watch(1, 0), 10, 6, 1);
        // 60 / q + 2 q: q 5 and 6 are alike with 22.
        one("watch(1, 20)", x, x.watch(1, 20), 5, 22, 1);
        one("watch(1, 9999)", x, x.watch(1, 9999), 1, 60 * 10 + 9999, 10);
        one("watch(0, 50)", x, x.watch(0, 50), 0, 0, 1);
        check.due("watch(1, -1)", x.watch(1, -1), -2);
        check.due("watch(1, 10000)", x.watch(1, 10000), -2);
        check.due("watch(2, 1)", x.watch(2, 1), -2);
        check.due("watch(-1, 1)", x.watch(-1, 1), -2);
        check.fraction("keeps", x, 0, 1);
        x = Check.hired(TWO + "least 5;else 3;");
        // From 5 on: 5 + 60 / q, not below 9.
        one("least and else", x, x.watch(1, 10), 8, 5 * 2 + 15 + 16, 2);
        x = Check.hired(TWO + "feel 2 3 1;");
        one("steps", x, x.watch(1, 0), 10, 3, 1);
        // q 4: 15 is felt of 12 coins; q 5: 12 is felt of 9.
        one("steps beyond, alike", x, x.watch(1, 30), 4, 24, 1);
    }

    private static void wrongInputs() {
        PaidBySigns x = Check.hired(TWO);
        int[] wrong = {-1, 2, Integer.MAX_VALUE, Integer.MIN_VALUE};
        for (int a : wrong) {
            check.due("make(" + a + ")", x.make(a), -2);
            check.due("bar(" + a + ")", x.bar(a), -2);
            check.due("crew(" + a + ", 0)", x.crew(a, 0), -2);
            check.due("crew(0, " + a + ")", x.crew(0, a), -2);
            check.due("merged(0, 0, " + a + ")", x.merged(0, 0, a), -2);
            check.due("merged(0, " + a + ", 0)", x.merged(0, a, 0), -2);
            check.due("coins(" + a + ", 0)", x.coins(a, 0), -2);
            check.due("wages(" + a + ")", x.wages(a, false), -1);
        }
        check.noFraction("wrong inputs", x);
    }
}
