import java.util.function.ToLongFunction;

/** The cheapest wages at their bounds (term III, promises 14 to 24), sentence by sentence. */
public final class CheapestBoundsTest {
    private static final Check check = new Check("CheapestBoundsTest");
    private static final String TWO = Hires.TWO;
    private static final String MEAN = Hires.MEAN;
    private static final String EVEN = Hires.EVEN;
    /** toil needs a fraction: 25/3 for high. */
    private static final String PARTS = TWO.replace("costs 6", "costs 5");
    /** Two WORKS that no SIGN tells apart; the second costs more. */
    private static final String TWINS = "sign a brings 0;sign b brings 9;work x costs 1 chances 5 5;"
        + "work y costs 2 chances 5 5;";
    /** Of y's four SIGNS three are alike; x has the first alone. */
    private static final String QUARTERS = "whole 4;sign a brings 0;sign b brings 1;sign c brings 2;sign d brings 3;"
        + "work x costs 0 chances 4 0 0 0;work y costs 3 chances 1 1 1 1;";
    private static final int MIN = Integer.MIN_VALUE;
    private static final int MAX = Integer.MAX_VALUE;

    public static void main(String[] args) {
        leastOrMore();
        notBelowOthers();
        notBelowElse();
        leastBySigns();
        atMarks();
        noWages();
        seenCost();
        bestOfAll();
        mergedSigns();
        inCoins();
        barAtSign();
        barCost();
        crewAtSign();
        oneBehindAnother();
        watchForPrice();
        fractions();
        upperAndLower();
        make();
        wages();
        seen();
        best();
        merged();
        coins();
        bar();
        crew();
        watch();
        check.finish();
    }

    private static void tells(String text, ToLongFunction<PaidBySigns> asked, int answer, long upper, long lower) {
        PaidBySigns x = Check.hired(text);
        check.due("[" + text + "]", asked.applyAsLong(x), answer);
        check.fraction("[" + text + "]", x, upper, lower);
    }

    private static void none(String text, ToLongFunction<PaidBySigns> asked) {
        PaidBySigns x = Check.hired(text);
        check.due("[" + text + "]", asked.applyAsLong(x), -1);
        check.noFraction("[" + text + "]", x);
    }

    private static void pays(String text, ToLongFunction<PaidBySigns> asked, long... upperAndLower) {
        PaidBySigns x = Check.hired(text);
        check.due("[" + text + "]", asked.applyAsLong(x), 1);
        for (int i = 0; i < upperAndLower.length; i++) {
            check.due("[" + text + "] wages(" + i / 2 + ", " + (i % 2 == 1) + ")", x.wages(i / 2, i % 2 == 1),
                upperAndLower[i]);
        }
    }

    private static void leastOrMore() {
        check.by("Term III", "of all WAGES, each least or more (fractions, too)");
        tells(TWO + "least 99;", x -> x.make(1), 1, 107, 1);
        pays(TWO + "least 99;", x -> x.make(1), 99, 1, 109, 1);
        tells(TWO + "least 99;", x -> x.make(0), 1, 99, 1);
        pays(TWO + "least 99;", x -> x.make(0), 99, 1, 99, 1);
        tells(PARTS, x -> x.make(1), 1, 20, 3);
        pays(PARTS, x -> x.make(1), 0, 1, 25, 3);
        pays(PARTS + "least 1;", x -> x.make(1), 1, 1, 28, 3);
    }

    private static void notBelowOthers() {
        check.by("Term III", "by which its WORTH is not below that of any other WORK");
        tells(EVEN, x -> x.make(2), 1, 2, 1);
        pays(EVEN, x -> x.make(2), 0, 1, 4, 1);
        none(MEAN, x -> x.make(2));
        tells(TWINS.replace("costs 2", "costs 1"), x -> x.make(0), 1, 1, 1);
        tells(TWINS.replace("costs 2", "costs 1"), x -> x.make(1), 1, 1, 1);
        PaidBySigns x = Check.hired(TWO);
        x.make(1);
        x.wage(1, 10);
        check.due("worth(1) as worth(0) by its WAGES", x.worth(1) - x.worth(0), 0);
    }

    private static void notBelowElse() {
        check.by("Term III", "and not below else, the least sum of chance times wage, over whole");
        tells(TWO + "else 2;", x -> x.make(1), 1, 8, 1);
        pays(TWO + "else 2;", x -> x.make(1), 0, 1, 10, 1);
        tells(TWO + "else 3;", x -> x.make(1), 1, 9, 1);
        pays(TWO + "else 3;", x -> x.make(1), 0, 1, 45, 4);
        tells(TWO + "else 2;", x -> x.make(0), 1, 2, 1);
        pays(TWO + "else 2;", x -> x.make(0), 0, 1, 10, 1);
        tells(TWO + "else 3;", x -> x.make(0), 1, 3, 1);
        pays(TWO + "else 3;", x -> x.make(0), 1, 1, 11, 1);
        tells(TWO + "else 99;", x -> x.make(1), 1, 105, 1);
        tells(TWO + "else 99;least 99;", x -> x.make(0), 1, 99, 1);
        tells(TWO + "else 99;least 98;", x -> x.make(0), 1, 99, 1);
    }

    private static void leastBySigns() {
        check.by("Term III", "of these those with the least wage of SIGN 0, then of SIGN 1, and so on");
        tells(QUARTERS, x -> x.make(1), 1, 3, 1);
        pays(QUARTERS, x -> x.make(1), 0, 1, 0, 1, 0, 1, 12, 1);
        tells(QUARTERS + "feel 2 5 1;", x -> x.make(1), 1, 3, 2);
        pays(QUARTERS + "feel 2 5 1;", x -> x.make(1), 0, 1, 0, 1, 1, 1, 5, 1);
        // A SIGN that never comes under y costs nothing, and is paid least.
        String never = "whole 4;sign a brings 0;sign b brings 1;sign c brings 2;"
            + "work x costs 0 chances 2 2 0;work y costs 3 chances 0 2 2;least 1;";
        pays(never, x -> x.make(1), 1, 1, 1, 1, 7, 1);
    }

    private static void atMarks() {
        check.by("Term II", "FEELING of a wage of w coins (0 or more, perhaps a fraction)");
        // toil must be felt 10 more for high than for low.
        tells(TWO + "feel 5 2 1;", x -> x.make(1), 1, 8, 5);
        pays(TWO + "feel 5 2 1;", x -> x.make(1), 0, 1, 2, 1);
        pays(TWO + "feel 5 3 1;", x -> x.make(1), 0, 1, 2, 1);
        pays(TWO + "feel 5 1 1;", x -> x.make(1), 0, 1, 6, 1);
        pays(TWO + "feel 5 2 1;least 2;", x -> x.make(1), 2, 1, 12, 1);
        pays(TWO + "feel 5 2 1;least 3;", x -> x.make(1), 3, 1, 13, 1);
        pays(TWO + "feel 5 2 1;least 1;", x -> x.make(1), 1, 1, 7, 1);
        pays(TWO + "feel 5 1 4 2 3;", x -> x.make(1), 0, 1, 7, 3);
        pays(TWO + "feel 4;", x -> x.make(1), 0, 1, 5, 2);
    }

    private static void noWages() {
        check.by("Term III", "None, if there are no such WAGES.");
        none(TWINS, x -> x.make(1));
        none(TWINS, x -> x.rises(1));
        tells(TWINS, x -> x.make(0), 1, 1, 1);
        none(TWINS.replace("costs 1", "costs 98").replace("costs 2", "costs 99"), x -> x.make(1));
        tells(TWINS.replace("costs 1", "costs 99").replace("costs 2", "costs 99"), x -> x.make(1), 1, 99, 1);
    }

    private static void seenCost() {
        check.by("Term III", "SEEN COST: the least wage w, least or more, with FEELING costs and else or more.");
        String text = TWO + "feel 3 2 1;";
        tells(text, x -> x.seen(1), 1, 2, 1);
        tells(text + "else 1;", x -> x.seen(1), 1, 3, 1);
        tells(text + "least 1;", x -> x.seen(1), 1, 2, 1);
        tells(text + "least 2;", x -> x.seen(1), 1, 2, 1);
        tells(text + "least 3;", x -> x.seen(1), 1, 3, 1);
        tells(text + "least 3;else 1;", x -> x.seen(1), 1, 3, 1);
        tells(text + "least 3;else 2;", x -> x.seen(1), 1, 4, 1);
        tells(text, x -> x.seen(0), 1, 0, 1);
        tells(text + "least 99;", x -> x.seen(0), 1, 99, 1);
        tells(text + "else 1;", x -> x.seen(0), 1, 1, 3);
        tells(text + "else 5;", x -> x.seen(0), 1, 5, 3);
        tells(TWINS.replace("costs 2", "costs 99") + "else 99;", x -> x.seen(1), 1, 198, 1);
        tells(TWINS.replace("costs 2", "costs 99") + "else 99;feel 5;", x -> x.seen(1), 1, 198, 5);
        tells(TWINS + "feel 5 1 3 2 2;else 6;", x -> x.seen(1), 1, 2, 1);
        tells(TWINS + "feel 5 1 3 2 2;else 7;", x -> x.seen(1), 1, 5, 2);
    }

    private static void bestOfAll() {
        check.by("Term III", "of alike ones the least; of those that have a LEAST COST");
        String alike = "sign a brings 0;sign b brings 5;work x costs 0 chances 10 0;work y costs 5 chances 0 10;";
        tells(alike, PaidBySigns::best, 0, 0, 1);
        tells(alike.replace("brings 5", "brings 6"), PaidBySigns::best, 1, 1, 1);
        tells(alike.replace("brings 5", "brings 4"), PaidBySigns::best, 0, 0, 1);
        // The first two bring the most; the first can't be had, as the second is the same, but cheaper.
        tells("sign a brings 0;sign b brings 100;work z costs 2 chances 0 10;work y costs 1 chances 0 10;"
            + "work x costs 0 chances 10 0;", PaidBySigns::best, 1, 99, 1);
        tells("sign a brings 0;sign b brings 0;work x costs 3 chances 5 5;work y costs 3 chances 5 5;feel 2;",
            PaidBySigns::best, 0, -3, 2);
        tells("sign a brings 999;sign b brings 999;work x costs 0 chances 5 5;work y costs 0 chances 5 5;",
            PaidBySigns::best, 0, 999, 1);
    }

    private static void mergedSigns() {
        check.by("Term III", "MERGED: LEAST COST when two SIGNS can't be told apart: their wages are alike.");
        none(TWO, x -> x.merged(1, 0, 1));
        tells(TWO, x -> x.merged(0, 0, 1), 1, 0, 1);
        tells(TWO + "else 7;", x -> x.merged(0, 1, 0), 1, 7, 1);
        tells(TWO.replace("costs 6", "costs 0"), x -> x.merged(1, 0, 1), 1, 0, 1);
        tells(QUARTERS, x -> x.make(1), 1, 3, 1);
        tells(QUARTERS, x -> x.merged(1, 1, 3), 1, 3, 1);
        // y's a and b as one: (w + w + c + d) / 4 less 3 is not below w, so c + d are at least 12 and 2 w.
        tells(QUARTERS, x -> x.merged(1, 0, 1), 1, 3, 1);
        tells(QUARTERS + "else 3;", x -> x.merged(1, 3, 0), 1, 6, 1);
        String apart = "whole 4;sign a brings 0;sign b brings 1;sign c brings 2;"
            + "work x costs 0 chances 2 2 0;work y costs 6 chances 0 0 4;";
        tells(apart, x -> x.merged(1, 0, 1), 1, 6, 1);
        tells(apart, x -> x.merged(1, 0, 2), 1, 12, 1);
        tells(apart, x -> x.merged(1, 2, 1), 1, 12, 1);
        tells(apart + "least 5;", x -> x.merged(1, 2, 1), 1, 17, 1);
    }

    private static void inCoins() {
        check.by("Term III", "COINS: LEAST COST with WAGES in whole coins, none above a number");
        String twenty = TWO.replace("costs 6", "costs 12");
        pays(twenty, x -> x.coins(1, 20), 0, 1, 20, 1);
        tells(twenty, x -> x.coins(1, 20), 1, 16, 1);
        none(twenty, x -> x.coins(1, 19));
        none(TWO.replace("costs 6", "costs 13"), x -> x.coins(1, 20));
        pays(PARTS, x -> x.coins(1, 9), 0, 1, 9, 1);
        none(PARTS, x -> x.coins(1, 8));
        tells(TWO, x -> x.coins(0, 0), 1, 0, 1);
        none(TWO, x -> x.coins(1, 0));
        none(TWO + "else 20;", x -> x.coins(0, 19));
        tells(TWO + "else 20;", x -> x.coins(0, 20), 1, 20, 1);
        none(TWO + "else 20;least 5;", x -> x.coins(0, 14));
        tells(TWO + "else 20;least 5;", x -> x.coins(0, 15), 1, 20, 1);
        // rest: 8 times low's wage and 2 times high's are 30, and high's is 10 more at the most.
        pays(TWO + "else 3;", x -> x.coins(0, 20), 1, 1, 11, 1);
        pays(TWO + "else 3;", x -> x.coins(0, 10), 2, 1, 7, 1);
        none(TWO + "else 3;", x -> x.coins(0, 2));
        none(MEAN, x -> x.coins(2, 20));
        pays(EVEN, x -> x.coins(2, 20), 0, 1, 4, 1);
        check.by("Term III", "its WAGES likewise the least by SIGNS");
        pays(QUARTERS, x -> x.coins(1, 20), 0, 1, 0, 1, 0, 1, 12, 1);
        pays(QUARTERS, x -> x.coins(1, 12), 0, 1, 0, 1, 0, 1, 12, 1);
        pays(QUARTERS, x -> x.coins(1, 11), 0, 1, 0, 1, 1, 1, 11, 1);
        pays(QUARTERS, x -> x.coins(1, 5), 0, 1, 2, 1, 5, 1, 5, 1);
        pays(QUARTERS, x -> x.coins(1, 4), 0, 1, 4, 1, 4, 1, 4, 1);
        none(QUARTERS, x -> x.coins(1, 3));
    }

    private static void barAtSign() {
        check.by("Term III", "BAR at a SIGN: SIGNS that bring as much or more are paid one sum x (least or more, a fraction), "
            + "others least");
        String equal = "whole 4;sign a brings 5;sign b brings 5;sign c brings 4;"
            + "work x costs 0 chances 0 0 4;work y costs 2 chances 2 2 0;";
        tells(equal, x -> x.bar(1), 0, 2, 1);
        // A bar that pays for a alone pays half as often, but twice as much.
        tells(equal.replace("b brings 5", "b brings 4"), x -> x.bar(1), 0, 2, 1);
        tells(equal.replace("a brings 5", "a brings 6") + "else 1;", x -> x.bar(1), 0, 3, 1);
        tells(TWO + "least 9;", x -> x.bar(0), 0, 9, 1);
        tells(PARTS, x -> x.bar(1), 1, 20, 3);
        tells(TWO + "least 9;", x -> x.bar(1), 1, 17, 1);
        none(TWO.replace("brings 100", "brings 10"), x -> x.bar(1));
        check.by("Term III", "the least x by which the WORK's WORTH is not below any other's and not below else");
        tells(EVEN, x -> x.bar(2), 1, 2, 1);
        none(MEAN, x -> x.bar(2));
        tells(TWO + "else 2;", x -> x.bar(1), 1, 8, 1);
        tells(TWO + "else 3;", x -> x.bar(1), 1, 9, 1);
        // Of two WORKS that are done for more the one that is done first counts, in whatever order they come.
        String more = "work u costs 9 chances 4 6;";
        tells(EVEN + more, x -> x.bar(2), 1, 2, 1);
        none(MEAN + more, x -> x.bar(2));
        tells(EVEN.replace("work y", more + "work y"), x -> x.bar(3), 1, 2, 1);
        none(MEAN.replace("work y", more + "work y"), x -> x.bar(3));
        // u by 1 of 10 more for high: at 2 z is never done, at 3 up to a sum of 10.
        none("sign a brings 0;sign b brings 10;work x costs 0 chances 10 0;work u costs 2 chances 4 6;"
            + "work z costs 2 chances 5 5;", x -> x.bar(2));
        tells("sign a brings 0;sign b brings 10;work x costs 0 chances 10 0;work u costs 3 chances 4 6;"
            + "work z costs 2 chances 5 5;", x -> x.bar(2), 1, 2, 1);
        // With all paid alike rest is done for 5, but a bar at high would pay toil more than rest.
        tells(TWO + "else 5;", x -> x.bar(0), 0, 5, 1);
        // At most 10 for high alone: 2 of 10 of it is just else 2.
        tells(TWO + "else 2;", x -> x.bar(0), 0, 2, 1);
    }

    private static void barCost() {
        check.by("Term III", "BAR COST: the least cost of all BARS (the sum of chance times wage, over whole); of alike ones "
            + "the least SIGN.");
        tells(TWO.replace("costs 6", "costs 0"), x -> x.bar(1), 0, 0, 1);
        tells("whole 6;sign a brings 9;sign b brings 5;sign c brings 0;"
            + "work x costs 0 chances 1 1 4;work y costs 4 chances 2 4 0;", x -> x.bar(1), 1, 6, 1);
        // At a and at c: 8 of 10 by 6 of 10 each way.
        tells("sign a brings 7;sign b brings 3;sign c brings 7;work x costs 0 chances 1 8 1;"
            + "work y costs 6 chances 4 2 4;", x -> x.bar(1), 0, 8, 1);
        tells("sign a brings 3;sign b brings 7;sign c brings 7;work x costs 0 chances 8 1 1;"
            + "work y costs 6 chances 2 4 4;", x -> x.bar(1), 1, 8, 1);
    }

    private static void crewAtSign() {
        check.by("Term III", "each is paid x if both SIGNS bring as much or more as that one, else least");
        tells(TWO, x -> x.crew(1, 1), 1, 8, 1);
        none(TWO, x -> x.crew(1, 0));
        none(TWO.replace("brings 100", "brings 10"), x -> x.crew(1, 1));
        tells(TWO + "least 4;", x -> x.crew(1, 1), 1, 12, 1);
        // Never both: under x no SIGN reaches the bar.
        tells(MEAN, x -> x.crew(0, 1), 1, 0, 1);
        none(MEAN + "else 1;", x -> x.crew(0, 1));
        tells(MEAN + "else 1;least 1;", x -> x.crew(0, 1), 1, 1, 1);
        check.by("Term III", "each one's WORTH by it is not below any other WORK's, and not below else");
        tells(EVEN, x -> x.crew(2, 1), 1, 2, 1);
        none(MEAN, x -> x.crew(2, 1));
        tells(TWO + "else 2;", x -> x.crew(1, 1), 1, 8, 1);
        tells(TWO + "else 3;", x -> x.crew(1, 1), 1, 9, 1);
        tells(PARTS, x -> x.crew(1, 1), 1, 20, 3);
        check.by("Term III", "CREW COST: what one hand is paid in the mean.");
        // 12.5 must be felt: 5 coins are 10, 2.5 more; 64 of 100 times.
        tells(TWO + "feel 2 5 1;", x -> x.crew(1, 1), 1, 24, 5);
        tells(TWO + "feel 2 5 1;least 5;", x -> x.crew(1, 1), 1, 13, 1);
        tells(TWO + "feel 2 5 1;least 6;", x -> x.crew(1, 1), 1, 14, 1);
    }

    /** What one call looked into is not left over for the next. */
    private static void oneBehindAnother() {
        check.by("Not promised", "Nothing is promised beyond the answers and state changes described above");
        PaidBySigns x = Check.hired(MEAN);
        for (int times = 0; times < 3; times++) {
            check.due("bar(2)", x.bar(2), -1);
            check.due("make(2)", x.make(2), -1);
            check.due("crew(2, 1)", x.crew(2, 1), -1);
            check.due("watch(1, 0)", x.watch(1, 0), 10);
            check.fraction("watch(1, 0)", x, 4, 1);
            check.due("coins(2, 20)", x.coins(2, 20), -1);
            check.due("bar(1)", x.bar(1), 1);
            check.fraction("bar(1)", x, 4, 1);
            check.due("crew(1, 1)", x.crew(1, 1), 1);
            check.fraction("crew(1, 1)", x, 4, 1);
            check.due("merged(2, 0, 1)", x.merged(2, 0, 1), -1);
            check.due("make(0)", x.make(0), 1);
            check.fraction("make(0)", x, 0, 1);
            check.due("coins(1, 20)", x.coins(1, 20), 1);
            check.fraction("coins(1, 20)", x, 4, 1);
            check.due("make(1)", x.make(1), 1);
            check.fraction("make(1)", x, 4, 1);
            check.due("wages(0, false)", x.wages(0, false), 0);
            check.due("wages(1, false)", x.wages(1, false), 4);
            check.due("best()", x.best(), 1);
            check.fraction("best()", x, 6, 1);
        }
    }

    private static void watchForPrice() {
        check.by("Term III", "WATCH COST: the least x and price together of all q; then the least q.");
        String half = "whole 2;sign a brings 0;sign b brings 0;work x costs 0 chances 2 0;work y costs 6 chances 0 2;";
        tells(half, x -> x.watch(1, 0), 2, 6, 1);
        tells(half, x -> x.watch(1, 11), 2, 17, 1);
        tells(half, x -> x.watch(1, 12), 1, 18, 1);
        tells(half, x -> x.watch(1, 13), 1, 37, 2);
        tells(half, x -> x.watch(0, 0), 0, 0, 1);
        tells(half + "else 7;", x -> x.watch(0, 0), 0, 7, 1);
        check.by("Term III", "with a chance q over whole (q 0 .. whole) he is watched, for q times the price over whole in "
            + "the mean");
        tells(TWO, x -> x.watch(1, 0), 10, 6, 1);
        tells(TWO, x -> x.watch(1, 9999), 1, 10599, 10);
        tells(TWO.replace("costs 6", "costs 0"), x -> x.watch(1, 0), 0, 0, 1);
        tells(TWO.replace("costs 6", "costs 0"), x -> x.watch(1, 9999), 0, 0, 1);
        check.by("Term III", "the least x by which the WORK's WORTH is not below any other's and not below else; WATCH COST");
        tells(half + "else 6;", x -> x.watch(1, 13), 1, 37, 2);
        tells(half + "else 7;", x -> x.watch(1, 13), 1, 39, 2);
        check.by("Term III", "a wage x (least or more) for all SIGNS, but least if he is watched doing another WORK");
        tells(half + "least 9;", x -> x.watch(1, 0), 2, 15, 1);
        tells(half + "least 9;", x -> x.watch(1, 12), 1, 27, 1);
        tells(half + "least 9;", x -> x.watch(0, 9999), 0, 9, 1);
    }

    private static void fractions() {
        check.by("The constants", "each of these calls tells a FRACTION, if it tells no NONE, RANGE, STATE.");
        PaidBySigns x = Check.hired(PARTS);
        check.due("make(1)", x.make(1), 1);
        check.fraction("make(1)", x, 20, 3);
        check.due("seen(1)", x.seen(1), 1);
        check.fraction("seen(1)", x, 5, 1);
        check.due("best()", x.best(), 1);
        check.fraction("best()", x, 226, 3);
        check.due("merged(0, 0, 1)", x.merged(0, 0, 1), 1);
        check.fraction("merged(0, 0, 1)", x, 0, 1);
        check.due("coins(1, 9)", x.coins(1, 9), 1);
        check.fraction("coins(1, 9)", x, 36, 5);
        check.due("bar(1)", x.bar(1), 1);
        check.fraction("bar(1)", x, 20, 3);
        check.due("watch(1, 1)", x.watch(1, 1), 10);
        check.fraction("watch(1, 1)", x, 6, 1);
        check.due("crew(1, 1)", x.crew(1, 1), 1);
        check.fraction("crew(1, 1)", x, 20, 3);
    }

    private static void upperAndLower() {
        check.by("Promise 14", "it is told by its least numbers; the lower one is 1 or more");
        tells(TWO, x -> x.make(0), 1, 0, 1);
        tells(TWO + "feel 2;", x -> x.make(1), 1, 4, 1);
        tells(TWO + "feel 4;", x -> x.seen(1), 1, 3, 2);
        tells("sign a brings 0;sign b brings 0;work x costs 3 chances 5 5;work y costs 3 chances 5 5;feel 4;",
            PaidBySigns::best, 0, -3, 4);
        check.by("Promise 14", "-2000000000 without.");
        check.withoutHire("upper()", PaidBySigns::upper, -2000000000L);
        check.by("Promise 15", "The lower number of it; 0 without.");
        check.withoutHire("lower()", PaidBySigns::lower, 0);
        PaidBySigns x = Check.hired(MEAN);
        check.noFraction("behind hire()", x);
        x.make(2);
        x.make(3);
        x.rises(1);
        x.edge(1, 1, 0);
        x.guess(0);
        x.wages(0, true);
        check.noFraction("behind calls that tell none", x);
        x.make(1);
        check.fraction("make(1)", x, 4, 1);
        check.due("upper() once more", x.upper(), 4);
        Check.hire(x, MEAN);
        check.noFraction("behind hire() again", x);
    }

    /** A call with a number of a WORK: wrong ones are RANGE, and leave all as it was. */
    private interface OfWork {
        long ask(PaidBySigns x, int a);
    }

    private static void wrongWorks(String name, OfWork call) {
        for (int a : new int[] {-1, 3, 4, 5, MIN, MAX}) {
            check.refused(name + " of WORK " + a, x -> call.ask(x, a), -2);
        }
        check.withoutHire(name, x -> call.ask(x, 0), -2);
        PaidBySigns x = Check.hired(Hires.MOST);
        check.due(name + " of WORK 4 of five is no RANGE", call.ask(x, 4) == -2 ? 1 : 0, 0);
        check.due(name + " of WORK 5 of five", call.ask(x, 5), -2);
    }

    private static void make() {
        check.by("Promise 16", "LEAST COST of a WORK is the FRACTION, and its WAGES are told: 1; NONE: it can't be had; RANGE.");
        wrongWorks("make()", PaidBySigns::make);
        check.refused("make(2)", x -> x.make(2), -1);
    }

    private static void wages() {
        check.by("Promise 17", "The wage of a SIGN by the latest make() or coins() that told 1: its upper number, or its "
            + "lower one; NONE: none such.");
        PaidBySigns x = Check.hired(PARTS);
        check.due("wages(0, false) ahead of any", x.wages(0, false), -1);
        check.due("wages(0, true) ahead of any", x.wages(0, true), -1);
        x.seen(1);
        x.best();
        x.merged(0, 0, 1);
        x.bar(1);
        x.crew(1, 1);
        x.watch(1, 1);
        x.rises(1);
        x.edge(1, 1, 0);
        check.due("wages(1, false) by calls that tell none", x.wages(1, false), -1);
        x.make(1);
        check.due("wages(1, false) by make(1)", x.wages(1, false), 25);
        check.due("wages(1, true) by make(1)", x.wages(1, true), 3);
        check.due("wages(0, true) by make(1)", x.wages(0, true), 1);
        check.due("coins(1, 8) can't", x.coins(1, 8), -1);
        x.make(2);
        x.coins(1, 21);
        x.best();
        x.merged(0, 0, 1);
        x.rises(0);
        x.edge(1, 1, 0);
        check.due("wages(1, false) still", x.wages(1, false), 25);
        check.due("wages(1, true) still", x.wages(1, true), 3);
        x.coins(1, 20);
        check.due("wages(1, false) by coins(1, 20)", x.wages(1, false), 9);
        check.due("wages(1, true) by coins(1, 20)", x.wages(1, true), 1);
        x.make(0);
        check.due("wages(1, false) by make(0)", x.wages(1, false), 0);
        for (int s : new int[] {-1, 2, 3, 4, MIN, MAX}) {
            check.due("wages(" + s + ", false)", x.wages(s, false), -1);
            check.due("wages(" + s + ", true)", x.wages(s, true), -1);
        }
        x = Check.hired(QUARTERS);
        x.make(1);
        check.due("wages(3, false)", x.wages(3, false), 12);
        check.due("wages(4, false)", x.wages(4, false), -1);
        Check.hire(x, PARTS);
        check.due("wages(1, false) of an earlier HIRE", x.wages(1, false), -1);
    }

    private static void seen() {
        check.by("Promise 18", "SEEN COST of a WORK is the FRACTION: 1; RANGE.");
        wrongWorks("seen()", PaidBySigns::seen);
        tells(MEAN, x -> x.seen(2), 1, 3, 1);
    }

    private static void best() {
        check.by("Promise 19", "BEST: the WORK; what it leaves is the FRACTION; NONE: no WORK can be had (there is no HIRE).");
        check.withoutHire("best()", PaidBySigns::best, -1);
        PaidBySigns x = new PaidBySigns();
        x.best();
        check.noFraction("best()", x);
        tells(TWINS, PaidBySigns::best, 0, 7, 2);
    }

    private static void merged() {
        check.by("Promise 20", "MERGED of a WORK with two unlike SIGNS is the FRACTION: 1; NONE: it can't be had so; RANGE.");
        wrongWorks("merged()", (x, a) -> x.merged(a, 0, 1));
        check.refused("merged(1, 0, 1)", x -> x.merged(1, 0, 1), -1);
        int[][] wrong = {{0, 0}, {1, 1}, {2, 0}, {0, 2}, {-1, 0}, {0, -1}, {MIN, 0}, {0, MAX}, {MAX, 0}, {0, MIN}, {2, 3}};
        for (int[] st : wrong) {
            check.refused("merged(0, " + st[0] + ", " + st[1] + ")", x -> x.merged(0, st[0], st[1]), -2);
        }
        tells(QUARTERS, x -> x.merged(0, 3, 2), 1, 0, 1);
        none(MEAN, x -> x.merged(2, 0, 1));
    }

    private static void coins() {
        check.by("Promise 21", "COINS of a WORK with wages up to most (0 .. 20, and least added to it) is the FRACTION, and "
            + "its WAGES are told: 1; NONE; RANGE.");
        wrongWorks("coins()", (x, a) -> x.coins(a, 5));
        for (int most : new int[] {-1, 21, 99, MIN, MAX}) {
            check.refused("coins(0, " + most + ")", x -> x.coins(0, most), -2);
        }
        check.refused("coins(1, 0)", x -> x.coins(1, 0), -1);
        String high = TWO.replace("costs 6", "costs 12") + "least 99;";
        pays(high, x -> x.coins(1, 20), 99, 1, 119, 1);
        none(high, x -> x.coins(1, 19));
        tells(high, x -> x.coins(0, 0), 1, 99, 1);
        pays(high, x -> x.coins(0, 0), 99, 1, 99, 1);
    }

    private static void bar() {
        check.by("Promise 22", "BAR COST of a WORK is the FRACTION: the SIGN of the BAR; NONE: no BAR will do; RANGE.");
        wrongWorks("bar()", PaidBySigns::bar);
        check.refused("bar(2)", x -> x.bar(2), -1);
        // Under y the SIGN d alone comes, under x the others.
        tells("sign a brings 1;sign b brings 2;sign c brings 3;sign d brings 4;work x costs 0 chances 3 3 4 0;"
            + "work y costs 2 chances 0 0 0 10;", x -> x.bar(1), 3, 2, 1);
    }

    private static void crew() {
        check.by("Promise 23", "CREW COST of a WORK at a SIGN is the FRACTION: 1; NONE; RANGE.");
        wrongWorks("crew()", (x, a) -> x.crew(a, 0));
        for (int s : new int[] {-1, 2, 3, 4, MIN, MAX}) {
            check.refused("crew(0, " + s + ")", x -> x.crew(0, s), -2);
        }
        check.refused("crew(2, 1)", x -> x.crew(2, 1), -1);
    }

    private static void watch() {
        check.by("Promise 24", "WATCH COST of a WORK for a price (0 .. 9999) is the FRACTION: q; NONE; RANGE.");
        wrongWorks("watch()", (x, a) -> x.watch(a, 0));
        for (int price : new int[] {-1, 10000, MIN, MAX}) {
            check.refused("watch(0, " + price + ")", x -> x.watch(0, price), -2);
        }
        tells(MEAN, x -> x.watch(2, 0), 10, 3, 1);
        tells(MEAN, x -> x.watch(2, 9999), 1, 10299, 10);
    }
}
