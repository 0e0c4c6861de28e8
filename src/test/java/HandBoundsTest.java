/** What he does at wages told by HAND, at the bounds (term II, promises 7 to 13), sentence by sentence. */
public final class HandBoundsTest {
    private static final Check check = new Check("HandBoundsTest");
    private static final String TWO = Hires.TWO;
    private static final int NO_NUMBER = -2000000000;
    private static final int MIN = Integer.MIN_VALUE;
    private static final int MAX = Integer.MAX_VALUE;

    public static void main(String[] args) {
        feelingByRates();
        worthOfWages();
        greatestWorth();
        comesAtElse();
        leavesBelowNothing();
        hand();
        chance();
        feeling();
        wage();
        worth();
        leaves();
        does();
        comes();
        check.finish();
    }

    private static void feelingByRates() {
        check.by("Term II", "the first RATE for each coin up to the first MARK, the next one for each beyond it to the next "
            + "MARK, and so on");
        PaidBySigns x = Check.hired(TWO + "feel 5 1 3 99 2;");
        int[][] due = {{0, 0}, {1, 5}, {2, 8}, {98, 296}, {99, 299}, {100, 301}, {9999, 299 + 19800}};
        for (int[] one : due) {
            check.due("feeling(" + one[0] + ")", x.feeling(one[0]), one[1]);
        }
        x = Check.hired(TWO + "feel 4 10 1;");
        check.due("feeling(9)", x.feeling(9), 36);
        check.due("feeling(10)", x.feeling(10), 40);
        check.due("feeling(11)", x.feeling(11), 41);
        x = Check.hired(TWO + "feel 5;");
        check.due("feeling(9999) by one RATE", x.feeling(9999), 49995);
        x = Check.hired(TWO + "feel 3 4 2 5 1;least 50;");
        check.due("feeling(0) below least", x.feeling(0), 0);
        check.due("feeling(4)", x.feeling(4), 12);
        check.due("feeling(5)", x.feeling(5), 14);
        check.due("feeling(6)", x.feeling(6), 15);
    }

    private static void worthOfWages() {
        check.by("Term II", "the sum of chance times FEELING of the SIGN's wage, over whole, less costs");
        PaidBySigns x = Check.hired("whole 2;sign a brings 0;sign b brings 0;work x costs 99 chances 2 0;"
            + "work y costs 0 chances 0 2;feel 5;");
        check.due("worth(0) of nothing", x.worth(0), -198);
        check.due("worth(1) of nothing", x.worth(1), 0);
        x.wage(0, 9999);
        check.due("worth(0) of the most", x.worth(0), 2 * 49995 - 198);
        check.due("worth(1) by a SIGN that never comes", x.worth(1), 0);
    }

    private static void greatestWorth() {
        check.by("Term II", "He DOES that of the greatest WORTH; of alike ones that which LEAVES most; then the least.");
        PaidBySigns x = Check.hired("sign a brings 0;sign b brings 5;work x costs 0 chances 10 0;"
            + "work y costs 1 chances 0 10;work z costs 1 chances 0 10;");
        check.due("does() at 0 to -10", x.does(), 0);
        x.wage(1, 1);
        check.due("worth(0) as worth(1)", x.worth(0) - x.worth(1), 0);
        check.due("does() of alike ones, 0 to 40 to 40", x.does(), 1);
        x.wage(1, 2);
        check.due("does() at 0 to 10", x.does(), 1);
        x.wage(0, 1);
        check.due("does() at 10 to 10, left -10 to 30", x.does(), 1);
        x.wage(0, 2);
        check.due("does() at 20 to 10", x.does(), 0);
        x = Check.hired("sign a brings 1;sign b brings 2;work x costs 0 chances 10 0;work y costs 1 chances 0 10;"
            + "work z costs 0 chances 10 0;");
        x.wage(1, 1);
        check.due("leaves(0) as leaves(1)", x.leaves(0) - x.leaves(1), 0);
        check.due("does() of three alike in all", x.does(), 0);
        x = Check.hired("sign a brings 0;sign b brings 9;work x costs 3 chances 10 0;work y costs 2 chances 5 5;"
            + "work z costs 2 chances 4 6;work u costs 2 chances 4 6;work v costs 1 chances 10 0;");
        x.wage(0, 0);
        check.due("does() the last one", x.does(), 4);
        x.wage(1, 2);
        check.due("worth(1) as worth(4) is below worth(2)", x.worth(2) - x.worth(1), 2);
        check.due("does() the first of the alike ones", x.does(), 2);
    }

    private static void comesAtElse() {
        check.by("Term II", "He COMES, if that WORTH is else or more.");
        for (int wage = 0; wage <= 30; wage++) {
            PaidBySigns x = Check.hired("whole 5;sign a brings 0;sign b brings 5;work x costs 3 chances 5 0;"
                + "work y costs 4 chances 1 4;else 7;");
            x.wage(0, wage);
            // worth(0) is 5 (wage - 3), worth(1) is wage - 20.
            check.due("comes() at a wage of " + wage, x.comes(), wage >= 10 ? 1 : 0);
        }
        PaidBySigns x = Check.hired(TWO);
        check.due("comes() at 0 with else 0", x.comes(), 1);
        x = Check.hired(TWO.replace("costs 0", "costs 6"));
        check.due("comes() below 0 with else 0", x.comes(), 0);
        x = Check.hired(TWO + "else 99;least 99;");
        check.due("comes() at 99 with else 99", x.comes(), 1);
        x = Check.hired(TWO + "else 99;least 98;");
        check.due("comes() at 98 with else 99", x.comes(), 0);
    }

    private static void leavesBelowNothing() {
        check.by("Term II", "LEAVES: the sum of chance times (brings less wage), over whole.");
        PaidBySigns x = Check.hired("whole 10;sign a brings 999;sign b brings 0;work x costs 0 chances 10 0;"
            + "work y costs 0 chances 0 10;");
        check.due("leaves(0) at the most", x.leaves(0), 9990);
        check.due("leaves(1) of nothing", x.leaves(1), 0);
        x.wage(0, 999);
        check.due("leaves(0) of all", x.leaves(0), 0);
        x.wage(1, 9999);
        check.due("leaves(1) at the least", x.leaves(1), -99990);
    }

    private static void hand() {
        check.by("Term II", "WAGES that are told by hand, whole coins, least .. 9999 (least at first).");
        int[] lowest = {0, 1, 98, 99};
        for (int least : lowest) {
            PaidBySigns x = Check.hired(TWO + "least " + least + ";");
            check.due("wage(0, least - 1)", x.wage(0, least - 1), -2);
            check.due("wage(0, least) at first", x.wage(0, least), least);
            check.due("wage(0, 9999)", x.wage(0, 9999), least);
            check.due("wage(0, 10000)", x.wage(0, 10000), -2);
            check.due("wage(0, least)", x.wage(0, least), 9999);
            check.due("wage(1, least) at first", x.wage(1, least), least);
        }
    }

    private static void chance() {
        check.by("Promise 7", "The chance of a SIGN under a WORK; RANGE.");
        PaidBySigns x = Check.hired(Hires.MOST);
        int[][] due = {{1, 2, 3, 1}, {7, 0, 0, 0}, {0, 0, 0, 7}, {1, 1, 1, 4}, {2, 2, 2, 1}};
        for (int a = -1; a <= 5; a++) {
            for (int s = -1; s <= 4; s++) {
                boolean isThere = a >= 0 && a < 5 && s >= 0 && s < 4;
                check.due("chance(" + a + ", " + s + ")", x.chance(a, s), isThere ? due[a][s] : -2);
            }
        }
        check.refused("chance(3, 0)", y -> y.chance(3, 0), -2);
        check.refused("chance(0, 2)", y -> y.chance(0, 2), -2);
        check.refused("chance(MIN, 0)", y -> y.chance(MIN, 0), -2);
        check.refused("chance(0, MIN)", y -> y.chance(0, MIN), -2);
        check.refused("chance(MAX, 0)", y -> y.chance(MAX, 0), -2);
        check.refused("chance(0, MAX)", y -> y.chance(0, MAX), -2);
        check.withoutHire("chance(0, 0)", y -> y.chance(0, 0), -2);
    }

    private static void feeling() {
        check.by("Promise 8", "FEELING of a wage (0 .. 9999); RANGE.");
        PaidBySigns x = Check.hired(TWO + "feel 2 5 1;");
        check.due("feeling(0)", x.feeling(0), 0);
        check.due("feeling(9999)", x.feeling(9999), 10004);
        for (int w : new int[] {-1, 10000, MIN, MAX}) {
            check.refused("feeling(" + w + ")", y -> y.feeling(w), -2);
            check.withoutHire("feeling(" + w + ")", y -> y.feeling(w), -2);
        }
        check.withoutHire("feeling(0)", y -> y.feeling(0), 0);
        check.withoutHire("feeling(9999)", y -> y.feeling(9999), 9999);
    }

    private static void wage() {
        check.by("Promise 9", "A SIGN's wage by HAND: what it was; RANGE.");
        PaidBySigns x = Check.hired(Hires.MOST);
        for (int s = 0; s < 4; s++) {
            check.due("wage(" + s + ", 200)", x.wage(s, 200 + s), 99);
        }
        for (int s = 0; s < 4; s++) {
            check.due("wage(" + s + ", 99)", x.wage(s, 99), 200 + s);
        }
        check.due("wage(4, 200)", x.wage(4, 200), -2);
        int[][] wrong = {{0, 2}, {0, -1}, {0, 10000}, {0, MIN}, {0, MAX}, {2, 50}, {-1, 50}, {MIN, 50}, {MAX, 50}};
        for (int[] one : wrong) {
            check.refused("wage(" + one[0] + ", " + one[1] + ")", y -> y.wage(one[0], one[1]), -2);
        }
        check.withoutHire("wage(0, 0)", y -> y.wage(0, 0), -2);
    }

    private static void worth() {
        check.by("Promise 10", "WORTH of a WORK by HAND, times whole; RANGE (-2000000000).");
        PaidBySigns x = Check.hired(Hires.MOST);
        check.due("worth(0)", x.worth(0), 7 * (15 + 96 * 4 - 3));
        check.due("worth(4)", x.worth(4), 7 * (15 + 96 * 4 - 5));
        check.due("worth(5)", x.worth(5), NO_NUMBER);
        for (int a : new int[] {-1, 3, MIN, MAX}) {
            check.refused("worth(" + a + ")", y -> y.worth(a), NO_NUMBER);
        }
        check.withoutHire("worth(0)", y -> y.worth(0), NO_NUMBER);
    }

    private static void leaves() {
        check.by("Promise 11", "What a WORK LEAVES by HAND, times whole; RANGE (-2000000000).");
        PaidBySigns x = Check.hired(Hires.MOST);
        check.due("leaves(0)", x.leaves(0), 5 + 1998 + 12 - 7 * 99);
        check.due("leaves(4)", x.leaves(4), 10 + 1998 + 12 - 7 * 99);
        check.due("leaves(5)", x.leaves(5), NO_NUMBER);
        for (int a : new int[] {-1, 3, MIN, MAX}) {
            check.refused("leaves(" + a + ")", y -> y.leaves(a), NO_NUMBER);
        }
        check.withoutHire("leaves(0)", y -> y.leaves(0), NO_NUMBER);
    }

    private static void does() {
        check.by("Promise 12", "The WORK that he DOES by HAND; STATE: no HIRE.");
        check.withoutHire("does()", y -> y.does(), -4);
        check.withoutHire("does() behind a FAULT", y -> Check.hire(y, TWO + "?") + 1 + y.does(), -4);
        check.due("does()", Check.hired(TWO).does(), 0);
    }

    private static void comes() {
        check.by("Promise 13", "1 if he COMES by HAND, else 0; STATE: no HIRE.");
        check.withoutHire("comes()", y -> y.comes(), -4);
        check.withoutHire("comes() behind a FAULT", y -> Check.hire(y, TWO + "?") + 1 + y.comes(), -4);
        check.due("comes()", Check.hired(TWO).comes(), 1);
        check.due("comes() not", Check.hired(TWO + "else 1;").comes(), 0);
    }
}
