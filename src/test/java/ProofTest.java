/** Proofs (promises 25 to 32). */
public final class ProofTest {
    private static final Check check = new Check("ProofTest");
    private static final String TWO = Hires.TWO;
    private static final String MEAN = Hires.MEAN;

    public static void main(String[] args) {
        pressAndBy();
        proves();
        provesWithSteps();
        mix();
        same();
        edge();
        ratio();
        rises();
        check.finish();
    }

    private static void pressAndBy() {
        PaidBySigns x = Check.hired(TWO);
        check.due("press(0, 5)", x.press(0, 5), 0);
        check.due("press(1, 6)", x.press(1, 6), 0);
        check.due("press(-1, 7)", x.press(-1, 7), 0);
        check.due("press(0, 9999)", x.press(0, 9999), 5);
        check.due("press(0, 10000)", x.press(0, 10000), -2);
        check.due("press(0, -1)", x.press(0, -1), -2);
        check.due("press(-1, -1)", x.press(-1, -1), -2);
        check.due("press(-2, 1)", x.press(-2, 1), -2);
        check.due("press(2, 1)", x.press(2, 1), -2);
        check.due("press(0, 0)", x.press(0, 0), 9999);
        check.due("press(1, 0)", x.press(1, 0), 6);
        check.due("press(-1, 0)", x.press(-1, 0), 7);
        check.due("by(0)", x.by(0), -2);
        check.due("by(-1)", x.by(-1), -2);
        check.due("by(10000)", x.by(10000), -2);
        check.due("by(9999)", x.by(9999), 1);
        check.due("count(2)", x.count(2), 9999);
        check.due("by(1)", x.by(1), 9999);
    }

    private static void proves() {
        PaidBySigns x = Check.hired(TWO);
        check.due("proves(1) by nothing", x.proves(1), 1);
        check.fraction("proves(1) by nothing", x, 0, 1);
        x.press(0, 1);
        check.due("proves(1)", x.proves(1), 1);
        check.fraction("proves(1)", x, 6, 1);
        x.press(1, 9999);
        check.due("its own counts nothing", x.proves(1), 1);
        check.fraction("its own counts nothing", x, 6, 1);
        x.press(0, 4);
        x.by(3);
        check.due("proves(1) all of it", x.proves(1), 1);
        check.fraction("proves(1) all of it", x, 8, 1);
        x.press(0, 4001);
        x.by(3000);
        check.due("a little too much proves nothing", x.proves(1), -1);
        check.fraction("and the FRACTION stays", x, 8, 1);
        x.press(0, 3);
        x.press(1, 0);
        x.by(7);
        check.due("proves(1) a part", x.proves(1), 1);
        check.fraction("proves(1) a part", x, 18, 7);
        x.press(0, 0);
        x.press(1, 1);
        check.due("proves(0) below 0", x.proves(0), 1);
        check.fraction("proves(0) below 0", x, -6, 7);
        check.due("proves(2)", x.proves(2), -2);
        check.due("proves(-1)", x.proves(-1), -2);

        x = Check.hired(TWO + "else 4;");
        x.press(-1, 1);
        check.due("by else", x.proves(1), 1);
        check.fraction("by else", x, 10, 1);
        x.press(-1, 2);
        check.due("by else, too much", x.proves(1), -1);
        x = Check.hired(TWO + "least 3;");
        x.press(0, 4);
        x.by(3);
        // low: 0.2 x 3 + 0.8 x 3, high: 0.8 w less 0.8 w.
        check.due("from least on", x.proves(1), 1);
        check.fraction("from least on", x, 11, 1);
    }

    private static void provesWithSteps() {
        PaidBySigns x = Check.hired(TWO + "feel 3 4 2;least 1;");
        x.press(0, 1);
        x.by(2);
        // 3; low: 0.2 + 0.3 x 3; high: 0.8 w less 0.3 u(w): -0.1 at 1, -0.4 at 4, then rises by 0.2.
        check.due("the least at a MARK", x.proves(1), 1);
        check.fraction("the least at a MARK", x, 37, 10);
        x.press(0, 3);
        x.by(4);
        // 4.5; low: 0.2 + 0.45 x 3; high: 0.8 w less 0.45 u(w): 3.2 - 5.4 at 4, then -0.1 for each coin.
        check.due("no least", x.proves(1), -1);
        x = Check.hired(TWO + "feel 3 4 2;least 6;");
        x.press(0, 1);
        x.by(2);
        // 3; low: 1.2 + 0.3 x 16; high: 4.8 - 4.8.
        check.due("a MARK below least", x.proves(1), 1);
        check.fraction("a MARK below least", x, 9, 1);
    }

    private static void mix() {
        PaidBySigns x = Check.hired(TWO);
        check.due("mix(0, 1000)", x.mix(0, 1000), 0);
        check.due("mix(0, 1001)", x.mix(0, 1001), -2);
        check.due("mix(0, -1)", x.mix(0, -1), -2);
        check.due("mix(-1, 1)", x.mix(-1, 1), -2);
        check.due("mix(2, 1)", x.mix(2, 1), -2);
        check.due("mix(1, 3)", x.mix(1, 3), 0);
        check.due("mix(0, 0)", x.mix(0, 0), 1000);
        check.due("mix(1, 0)", x.mix(1, 0), 3);
    }

    private static void same() {
        PaidBySigns x = Check.hired(MEAN);
        check.due("nothing is mixed", x.same(2), 0);
        x.mix(0, 1);
        check.due("one WORK alone", x.same(2), 0);
        x.mix(1, 1);
        check.due("half and half", x.same(2), 1);
        x.mix(0, 500);
        x.mix(1, 500);
        check.due("by their shares", x.same(2), 1);
        x.mix(2, 999);
        check.due("of itself as 0", x.same(2), 1);
        x.mix(1, 499);
        check.due("not just so", x.same(2), 0);
        check.due("another", x.same(0), 0);
        check.due("same(3)", x.same(3), -2);
        check.due("same(-1)", x.same(-1), -2);
        x = Check.hired(MEAN.replace("costs 3", "costs 2"));
        x.mix(0, 1);
        x.mix(1, 1);
        check.due("it costs as much", x.same(2), 0);
        x = Check.hired(MEAN.replace("costs 3", "costs 2").replace("costs 4", "costs 3"));
        x.mix(0, 1);
        x.mix(1, 1);
        check.due("it costs a little less", x.same(2), 1);
        x = Check.hired(MEAN);
        x.mix(2, 7);
        check.due("itself alone is nothing", x.same(2), 0);
    }

    private static void edge() {
        PaidBySigns x = Check.hired(TWO);
        x.seen(1);
        x.make(1);
        x.seen(1);
        // toil with 8 - e of 10 for high: brings 82 - 9 e, costs 6 (8 - e) / (6 - e); rest leaves 28.
        check.due("edge(1, 1, 0)", x.edge(1, 1, 0), 5);
        check.due("chance(1, 1)", x.chance(1, 1), 8);
        check.due("chance(1, 0)", x.chance(1, 0), 2);
        check.fraction("the FRACTION stays", x, 6, 1);
        check.due("WAGES stay", x.wages(1, false), 10);
        check.due("edge(1, 0, 1) as many as can be", x.edge(1, 0, 1), -1);
        check.due("chance(1, 0) stays", x.chance(1, 0), 2);
        // rest with 2 + e of 10 for high leaves 28 + 9 e, toil then 82 less 48 / (6 - e): 64 and 58 with 4.
        check.due("edge(0, 0, 1)", x.edge(0, 0, 1), 4);
        check.due("edge(0, 0, 0)", x.edge(0, 0, 0), -2);
        check.due("edge(2, 0, 1)", x.edge(2, 0, 1), -2);
        check.due("edge(-1, 0, 1)", x.edge(-1, 0, 1), -2);
        check.due("edge(0, 2, 1)", x.edge(0, 2, 1), -2);
        check.due("edge(0, 0, -1)", x.edge(0, 0, -1), -2);
        x = Check.hired("sign a brings 0;sign b brings 10;work x costs 0 chances 10 0;work y costs 4 chances 0 10;");
        check.due("nothing to move", x.edge(1, 0, 1), -1);
        check.due("nothing to move", x.edge(0, 1, 0), -1);
        // z leaves 6 - e, y 10 less 40 / (4 + e).
        x = Check.hired("sign a brings 0;sign b brings 10;work x costs 0 chances 10 0;work y costs 4 chances 0 10;"
            + "work z costs 0 chances 4 6;");
        check.due("best()", x.best(), 2);
        check.due("edge(2, 1, 0)", x.edge(2, 1, 0), 3);
        // y leaves 10 - e - 9, x nothing.
        x = Check.hired("sign a brings 0;sign b brings 10;work x costs 0 chances 10 0;work y costs 9 chances 0 10;");
        check.due("best()", x.best(), 1);
        check.due("one is enough", x.edge(1, 1, 0), 1);
    }

    private static void ratio() {
        PaidBySigns x = Check.hired(TWO);
        check.due("ratio(1, 0)", x.ratio(1, 0), 1);
        check.due("ratio(0, 1)", x.ratio(0, 1), 0);
        check.due("ratio(0, 0)", x.ratio(0, 0), 1);
        check.due("ratio(0, 2)", x.ratio(0, 2), -2);
        check.due("ratio(-1, 0)", x.ratio(-1, 0), -2);
        x = Check.hired("sign low brings 100;sign high brings 100;"
            + "work rest costs 0 chances 8 2;work toil costs 6 chances 2 8;");
        check.due("none brings more", x.ratio(0, 1), 1);
        check.due("none brings more", x.ratio(1, 0), 1);
        x = Check.hired("sign c brings 3;sign a brings 1;sign b brings 2;"
            + "work x costs 0 chances 2 4 4;work y costs 0 chances 4 3 3;work z costs 0 chances 3 3 4;");
        check.due("a and b alike", x.ratio(1, 0), 1);
        check.due("the other way round", x.ratio(0, 1), 0);
        check.due("c less than b", x.ratio(2, 1), 0);
        check.due("c more than b", x.ratio(1, 2), 0);
        check.due("4 to 4, then 3 to 2", x.ratio(2, 0), 1);
    }

    private static void rises() {
        PaidBySigns x = Check.hired(TWO);
        x.make(0);
        x.seen(1);
        check.due("rises(1)", x.rises(1), 1);
        check.fraction("the FRACTION stays", x, 6, 1);
        check.due("WAGES stay", x.wages(1, false), 0);
        check.due("all alike", x.rises(0), 1);
        check.due("rises(2)", x.rises(2), -2);
        check.due("rises(-1)", x.rises(-1), -2);
        x = Check.hired(TWO.replace("brings 100", "brings 9"));
        check.due("it falls", x.rises(1), 0);
        x = Check.hired(TWO.replace("brings 100", "brings 10"));
        check.due("none brings more", x.rises(1), 1);
        x = Check.hired(MEAN);
        check.due("can't be had", x.rises(2), -1);
        check.noFraction("can't be had", x);
    }
}
