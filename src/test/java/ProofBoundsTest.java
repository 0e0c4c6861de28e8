/** Proofs at their bounds (term IV up to RISES, promises 25 to 32), sentence by sentence. */
public final class ProofBoundsTest {
    private static final Check check = new Check("ProofBoundsTest");
    private static final String TWO = Hires.TWO;
    private static final String MEAN = Hires.MEAN;
    private static final String EVEN = Hires.EVEN;
    private static final String TWINS = "sign a brings 0;sign b brings 9;work x costs 3 chances 5 5;"
        + "work y costs 2 chances 5 5;";
    private static final int MIN = Integer.MIN_VALUE;
    private static final int MAX = Integer.MAX_VALUE;

    public static void main(String[] args) {
        pressOfItself();
        noLeast();
        fromLeastOn();
        mixOfItself();
        justTheChance();
        costsLess();
        edgeByBest();
        edgeAsMany();
        ratioOfAlike();
        risesOfAlike();
        press();
        by();
        proves();
        mix();
        same();
        edge();
        ratio();
        rises();
        check.finish();
    }

    private static PaidBySigns pressed(String text, int ofFirst, int ofSecond, int ofElse, int by) {
        PaidBySigns x = Check.hired(text);
        x.press(0, ofFirst);
        x.press(1, ofSecond);
        x.press(-1, ofElse);
        x.by(by);
        return x;
    }

    private static void proved(String name, PaidBySigns x, int a, long upper, long lower) {
        check.due(name, x.proves(a), 1);
        check.fraction(name, x, upper, lower);
    }

    private static void nothingProved(String name, PaidBySigns x, int a) {
        check.due(name, x.proves(a), -1);
        check.noFraction(name, x);
    }

    private static void pressOfItself() {
        check.by("Term IV", "(y(a) counts nothing.)");
        proved("y(1) is 9999", pressed(TWO, 4, 9999, 0, 3), 1, 8, 1);
        proved("y(0) is 9999", pressed(TWO, 9999, 0, 0, 1), 0, 0, 1);
    }

    private static void noLeast() {
        check.by("Term IV", "It may prove nothing: when there is no least.");
        proved("it stays as it is", pressed(TWO, 4, 0, 0, 3), 1, 8, 1);
        proved("it rises a little", pressed(TWO, 3999, 0, 0, 3000), 1, 3999, 500);
        nothingProved("it falls a little", pressed(TWO, 4001, 0, 0, 3000), 1);
        // 6 y; high: 0.8 w less 0.6 y FEELING, -1.6 at 4, then as it is by the last RATE.
        String steps = TWO + "feel 3 4 2;";
        proved("by the last RATE it stays", pressed(steps, 2, 0, 0, 3), 1, 12, 5);
        nothingProved("by the last RATE it falls a little", pressed(steps, 2001, 0, 0, 3000), 1);
        String more = TWO + "feel 5 2 3 4 2;";
        // 4, less 0.4 of (10 and 6) and 3.2 at the second MARK.
        proved("of three RATES the last", pressed(more, 2, 0, 0, 3), 1, 4, 5);
        nothingProved("of three RATES the last", pressed(more, 2001, 0, 0, 3000), 1);
        proved("by else it stays", pressed(TWO + "else 4;", 0, 0, 1, 1), 1, 10, 1);
        nothingProved("by else it falls a little", pressed(TWO + "else 4;", 0, 0, 9999, 9998), 1);
        proved("by else it rises a little", pressed(TWO + "else 4;", 0, 0, 9998, 9999), 1, 99980, 9999);
        nothingProved("the most of all", pressed(TWO, 9999, 9999, 9999, 1), 1);
    }

    private static void fromLeastOn() {
        check.by("Term IV", "the least (of all wages w, least or more) of chance of a times w over whole, less FEELING of w "
            + "times K");
        proved("least 3", pressed(TWO + "least 3;", 4, 0, 0, 3), 1, 11, 1);
        proved("nothing is told: least", pressed(TWO + "least 99;", 0, 0, 0, 1), 1, 99, 1);
        proved("nothing is told: least 0", pressed(TWO, 0, 0, 0, 1), 1, 0, 1);
        // 4; low: 0.2 w and 0.4 FEELING; high: 0.8 w less 0.4 FEELING: at 4 it is -1.6, from there on so.
        String steps = TWO + "feel 3 4 2;";
        proved("least ahead of the MARK", pressed(steps + "least 3;", 2, 0, 0, 3), 1, 33, 5);
        proved("least at the MARK", pressed(steps + "least 4;", 2, 0, 0, 3), 1, 8, 1);
        proved("least behind the MARK", pressed(steps + "least 5;", 2, 0, 0, 3), 1, 9, 1);
    }

    private static PaidBySigns mixed(String text, int... numbers) {
        PaidBySigns x = Check.hired(text);
        for (int b = 0; b < numbers.length; b++) {
            check.due("mix(" + b + ")", x.mix(b, numbers[b]), 0);
        }
        return x;
    }

    private static void mixOfItself() {
        check.by("Term IV", "its numbers over their sum, of a itself as 0");
        check.due("as 0", mixed(MEAN, 1, 1, 1000).same(2), 1);
        check.due("itself alone", mixed(MEAN, 0, 0, 1000).same(2), 0);
        check.due("nothing at all", mixed(MEAN, 0, 0, 0).same(2), 0);
        check.due("the most of all", mixed(MEAN, 1000, 1000, 1000).same(2), 1);
        check.due("twins", mixed(TWINS, 0, 1).same(0), 1);
        check.due("twins, itself alone", mixed(TWINS, 1, 0).same(0), 0);
        check.due("the cheaper twin", mixed(TWINS, 1, 0).same(1), 0);
    }

    private static void justTheChance() {
        check.by("Term IV", "if each SIGN comes under the MIX");
        check.due("half and half", mixed(MEAN, 500, 500).same(2), 1);
        check.due("a little more of the first", mixed(MEAN, 500, 499).same(2), 0);
        check.due("a little less of the first", mixed(MEAN, 499, 500).same(2), 0);
        check.due("the most and one", mixed(MEAN, 1000, 999).same(2), 0);
        check.due("the first alone", mixed(MEAN, 1000, 0).same(2), 0);
        // Two of the three SIGNS come just so.
        String three = "sign a brings 0;sign b brings 0;sign c brings 0;sign d brings 0;work x costs 0 chances 4 6 0 0;"
            + "work y costs 0 chances 4 0 6 0;work z costs 9 chances 4 3 2 1;work u costs 9 chances 4 3 3 0;";
        check.due("the last SIGN does not come so", mixed(three, 1, 1).same(2), 0);
        check.due("all four do", mixed(three, 1, 1).same(3), 1);
    }

    private static void costsLess() {
        check.by("Term IV", "and the MIX costs less than the WORK");
        check.due("as much", mixed(EVEN, 1000, 1000).same(2), 0);
        check.due("a little less", mixed(EVEN.replace("costs 4", "costs 3"), 1000, 1000).same(2), 1);
        check.due("a little more", mixed(EVEN.replace("costs 4", "costs 5"), 1000, 1000).same(2), 0);
        check.due("twins that cost alike", mixed(TWINS.replace("costs 3", "costs 2"), 0, 1).same(0), 0);
    }

    private static void edgeByBest() {
        check.by("Term IV", "the least e (1 .. as many as can be) with which BEST is another WORK");
        // y leaves 10 - e - 9, x nothing; alike at 1: the least.
        String one = "sign a brings 0;sign b brings 10;work x costs 0 chances 10 0;work y costs 9 chances 0 10;";
        check.due("best()", Check.hired(one).best(), 1);
        check.due("edge(1, 1, 0)", Check.hired(one).edge(1, 1, 0), 1);
        String later = "sign a brings 0;sign b brings 10;work y costs 9 chances 0 10;work x costs 0 chances 10 0;";
        check.due("best()", Check.hired(later).best(), 0);
        // Alike at 1, where the first stays BEST: it is another one at 2.
        check.due("edge(0, 1, 0)", Check.hired(later).edge(0, 1, 0), 2);
    }

    private static void edgeAsMany() {
        check.by("Term IV", "a chance of a WORK for SIGN s becomes e less, for SIGN t e more");
        // y leaves 10 - e, x nothing.
        String all = "sign a brings 0;sign b brings 10;work x costs 0 chances 10 0;work y costs 0 chances 0 10;";
        check.due("the last e that can be", Check.hired(all).edge(1, 1, 0), 10);
        String other = "sign a brings 0;sign b brings 10;work y costs 0 chances 0 10;work x costs 0 chances 10 0;";
        check.due("no e of all that can be", Check.hired(other).edge(0, 1, 0), -1);
        check.due("no chance to take from", Check.hired(all).edge(1, 0, 1), -1);
        check.due("no chance to take from", Check.hired(all).edge(0, 1, 0), -1);
        // x leaves e, y 10 with nothing to pay.
        check.due("the other way", Check.hired(all).edge(0, 0, 1), 10);
        check.due("alike, but behind", Check.hired(other).edge(1, 0, 1), -1);
        String three = "whole 3;sign a brings 0;sign b brings 9;sign c brings 9;work x costs 0 chances 3 0 0;"
            + "work y costs 0 chances 1 1 1;";
        check.due("between SIGNS that bring alike", Check.hired(three).edge(1, 1, 2), -1);
        check.due("one of one", Check.hired(three).edge(1, 1, 0), -1);
        check.due("alike at two of three", Check.hired(three).edge(0, 0, 2), 2);
    }

    private static void ratioOfAlike() {
        check.by("Term IV", "if t brings more, chance of a for t times chance of b for s is not below chance of a for s times "
            + "chance of b for t");
        check.due("a WORK and itself", Check.hired(TWO).ratio(1, 1), 1);
        check.due("just as much", Check.hired(TWINS).ratio(0, 1), 1);
        String little = "sign a brings 1;sign b brings 2;work x costs 0 chances 5 5;work y costs 0 chances 6 4;";
        check.due("a little more", Check.hired(little).ratio(0, 1), 1);
        check.due("a little less", Check.hired(little).ratio(1, 0), 0);
        String alike = little.replace("brings 2", "brings 1");
        check.due("none brings more", Check.hired(alike).ratio(1, 0), 1);
        String turned = little.replace("brings 1", "brings 3");
        check.due("the first brings more", Check.hired(turned).ratio(1, 0), 1);
        check.due("the first brings more", Check.hired(turned).ratio(0, 1), 0);
        check.due("chances of 0", Check.hired(Hires.SURE).ratio(1, 0), 1);
        check.due("chances of 0", Check.hired(Hires.SURE).ratio(0, 1), 0);
    }

    private static void risesOfAlike() {
        check.by("Term IV", "whether WAGES of a WORK (LEAST COST) never fall from a SIGN to one that brings more");
        check.due("0 and 10", Check.hired(TWO).rises(1), 1);
        check.due("0 and 0", Check.hired(TWO).rises(0), 1);
        check.due("0 for what brings most", Check.hired(TWO.replace("brings 100", "brings 9")).rises(1), 0);
        check.due("alike in what they bring", Check.hired(TWO.replace("brings 100", "brings 10")).rises(1), 1);
        check.due("one more", Check.hired(TWO.replace("brings 100", "brings 11")).rises(1), 1);
        String turned = "sign high brings 9;sign low brings 10;work rest costs 0 chances 2 8;"
            + "work toil costs 6 chances 8 2;";
        check.due("from the first SIGN on it falls", Check.hired(turned).rises(1), 0);
        check.due("alike", Check.hired(turned.replace("brings 9", "brings 10")).rises(1), 1);
        check.due("more", Check.hired(turned.replace("brings 9", "brings 11")).rises(1), 1);
        // Wages 0, 0, 0, 12: the last SIGN must bring as much as any.
        String quarters = "whole 4;sign a brings 0;sign b brings 1;sign c brings 2;sign d brings 2;"
            + "work x costs 0 chances 4 0 0 0;work y costs 3 chances 1 1 1 1;";
        check.due("the last two bring alike", Check.hired(quarters).rises(1), 1);
        check.due("the last one brings less", Check.hired(quarters.replace("d brings 2", "d brings 1")).rises(1), 0);
    }

    private static void press() {
        check.by("Promise 25", "PRESS of a WORK (b NONE: of else) is n (0 .. 9999): what it was; RANGE.");
        PaidBySigns x = Check.hired(Hires.MOST);
        for (int b = -1; b < 5; b++) {
            check.due("press(" + b + ", 9999)", x.press(b, 9999), 0);
            check.due("press(" + b + ", 0)", x.press(b, 0), 9999);
            check.due("press(" + b + ", n)", x.press(b, b + 2), 0);
            check.due("press(" + b + ", -1)", x.press(b, -1), -2);
            check.due("press(" + b + ", 10000)", x.press(b, 10000), -2);
        }
        for (int b = -1; b < 5; b++) {
            check.due("press(" + b + ", 0)", x.press(b, 0), b + 2);
        }
        check.due("press(5, 0)", x.press(5, 0), -2);
        int[][] wrong = {{0, -1}, {0, 10000}, {0, MIN}, {0, MAX}, {3, 1}, {-2, 1}, {-3, 1}, {-4, 1}, {MIN, 1}, {MAX, 1},
            {-1, -1}, {-1, 10000}};
        for (int[] one : wrong) {
            check.refused("press(" + one[0] + ", " + one[1] + ")", y -> y.press(one[0], one[1]), -2);
        }
        check.withoutHire("press(0, 1)", y -> y.press(0, 1), -2);
        check.withoutHire("press(-1, 9999)", y -> y.press(-1, 9999), 0);
        check.withoutHire("press(-1, 9999), press(-1, 0)", y -> y.press(-1, 9999) + y.press(-1, 0), 9999);
        check.withoutHire("press(-1, 10000)", y -> y.press(-1, 10000), -2);
    }

    private static void by() {
        check.by("Promise 26", "D is n (1 .. 9999): what it was; RANGE.");
        PaidBySigns x = Check.hired(TWO);
        check.due("by(9999)", x.by(9999), 1);
        check.due("count(2)", x.count(2), 9999);
        check.due("by(1)", x.by(1), 9999);
        check.due("count(2)", x.count(2), 1);
        for (int n : new int[] {0, -1, 10000, MIN, MAX}) {
            check.refused("by(" + n + ")", y -> y.by(n), -2);
            check.withoutHire("by(" + n + ")", y -> y.by(n), -2);
        }
        check.withoutHire("by(9999)", y -> y.by(9999), 1);
    }

    private static void proves() {
        check.by("Promise 27", "What PRESS proves of a WORK is the FRACTION: 1; NONE: nothing; RANGE.");
        for (int a : new int[] {-1, 3, 4, 5, MIN, MAX}) {
            check.refused("proves(" + a + ")", y -> y.proves(a), -2);
        }
        check.refused("proves(1)", y -> y.proves(1), -1);
        check.withoutHire("proves(0)", y -> y.proves(0), -2);
        proved("the most by D 1", pressed(TWINS, 0, 9999, 0, 1), 0, 9999, 1);
        proved("the most by D 9999", pressed(TWINS, 0, 9999, 0, 9999), 0, 1, 1);
        proved("the least by D 9999", pressed(TWINS, 0, 1, 0, 9999), 0, 1, 9999);
        proved("below 0", pressed(TWINS, 9999, 0, 0, 1), 1, -9999, 1);
        proved("nothing but 0", pressed(TWO, 0, 0, 0, 9999), 0, 0, 1);
    }

    private static void mix() {
        check.by("Term IV", "a number (0 .. 1000) for each WORK");
        PaidBySigns x = Check.hired(Hires.MOST);
        for (int b = 0; b < 5; b++) {
            check.due("mix(" + b + ", 1000)", x.mix(b, 1000), 0);
            check.due("mix(" + b + ", 0)", x.mix(b, 0), 1000);
            check.due("mix(" + b + ", n)", x.mix(b, b + 1), 0);
        }
        for (int b = 0; b < 5; b++) {
            check.due("mix(" + b + ", 0)", x.mix(b, 0), b + 1);
        }
        check.due("mix(0, 1001)", x.mix(0, 1001), -2);
        check.due("mix(0, -1)", x.mix(0, -1), -2);
        check.by("Promise 28", "MIX: the number of a WORK: what it was; RANGE.");
        check.due("mix(5, 0)", x.mix(5, 0), -2);
        int[][] wrong = {{0, -1}, {0, 1001}, {0, MIN}, {0, MAX}, {3, 1}, {-1, 1}, {MIN, 1}, {MAX, 1}};
        for (int[] one : wrong) {
            check.refused("mix(" + one[0] + ", " + one[1] + ")", y -> y.mix(one[0], one[1]), -2);
        }
        check.withoutHire("mix(0, 1)", y -> y.mix(0, 1), -2);
        check.withoutHire("mix(-1, 1)", y -> y.mix(-1, 1), -2);
    }

    private static void same() {
        check.by("Promise 29", "1 if MIX proves that a WORK can't be had, else 0; RANGE.");
        for (int a : new int[] {-1, 3, 4, 5, MIN, MAX}) {
            check.refused("same(" + a + ")", y -> y.same(a), -2);
        }
        check.withoutHire("same(0)", y -> y.same(0), -2);
        check.refused("same(2)", y -> y.same(2), 1);
        check.refused("same(1)", y -> y.same(1), 0);
    }

    private static void edge() {
        check.by("Promise 30", "EDGE of a WORK from a SIGN to an unlike one: e; NONE: no e does it; RANGE. (The HIRE stays, "
            + "and the FRACTION.)");
        int[][] wrong = {{-1, 0, 1}, {3, 0, 1}, {MIN, 0, 1}, {MAX, 0, 1}, {0, 0, 0}, {0, 1, 1}, {0, 2, 1}, {0, 1, 2},
            {0, -1, 1}, {0, 1, -1}, {0, MIN, 1}, {0, 1, MAX}, {0, 2, 3}};
        for (int[] one : wrong) {
            check.refused("edge(" + one[0] + ", " + one[1] + ", " + one[2] + ")",
                y -> y.edge(one[0], one[1], one[2]), -2);
        }
        check.refused("edge(0, 1, 0) that is NONE", y -> y.edge(0, 1, 0), -1);
        for (int a = 0; a < 3; a++) {
            String name = "edge(" + a + ", ..) leaves the HIRE and the FRACTION";
            PaidBySigns x = State.rich();
            String before = State.seenBy(x);
            x.edge(a, 0, 1);
            x.edge(a, 1, 0);
            check.due(name, before.equals(State.seenBy(x)) ? 1 : 0, 1);
        }
        check.withoutHire("edge(0, 0, 1)", y -> y.edge(0, 0, 1), -2);
        PaidBySigns x = Check.hired(TWO);
        check.due("edge(1, 1, 0)", x.edge(1, 1, 0), 5);
        check.due("edge(1, 1, 0) again", x.edge(1, 1, 0), 5);
        check.noFraction("edge(1, 1, 0)", x);
    }

    private static void ratio() {
        check.by("Promise 31", "RATIO of two WORKS: 1, else 0; RANGE.");
        int[][] wrong = {{-1, 0}, {0, -1}, {3, 0}, {0, 3}, {MIN, 0}, {0, MIN}, {MAX, 0}, {0, MAX}};
        for (int[] one : wrong) {
            check.refused("ratio(" + one[0] + ", " + one[1] + ")", y -> y.ratio(one[0], one[1]), -2);
        }
        check.withoutHire("ratio(0, 0)", y -> y.ratio(0, 0), -2);
        check.refused("ratio(1, 0)", y -> y.ratio(1, 0), 1);
        check.refused("ratio(0, 1)", y -> y.ratio(0, 1), 0);
    }

    private static void rises() {
        check.by("Promise 32", "RISES of a WORK: 1, else 0; NONE: it can't be had; RANGE. (The FRACTION and WAGES that were "
            + "told stay.)");
        for (int a : new int[] {-1, 3, 4, 5, MIN, MAX}) {
            check.refused("rises(" + a + ")", y -> y.rises(a), -2);
        }
        check.withoutHire("rises(0)", y -> y.rises(0), -2);
        check.refused("rises(2)", y -> y.rises(2), -1);
        check.refused("rises(1)", y -> y.rises(1), 1);
        check.refused("rises(0)", y -> y.rises(0), 1);
    }
}
