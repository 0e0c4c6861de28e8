/** What he does at wages told by HAND (promises 7 to 13). */
public final class HandTest {
    private static final Check check = new Check("HandTest");
    private static final String TWO = Hires.TWO;
    private static final int NO_NUMBER = -2000000000;

    public static void main(String[] args) {
        chances();
        feelings();
        wages();
        worths();
        alike();
        comes();
        check.finish();
    }

    private static void chances() {
        PaidBySigns x = Check.hired("whole 3;sign a brings 1;sign b brings 2;sign c brings 3;"
            + "work x costs 0 chances 0 1 2;work y costs 0 chances 3 0 0;");
        int[][] want = {{0, 1, 2}, {3, 0, 0}};
        for (int a = -1; a <= 2; a++) {
            for (int s = -1; s <= 3; s++) {
                boolean isIn = a >= 0 && a < 2 && s >= 0 && s < 3;
                check.due("chance(" + a + ", " + s + ")", x.chance(a, s), isIn ? want[a][s] : -2);
            }
        }
        check.due("chance(MIN, MAX)", x.chance(Integer.MIN_VALUE, Integer.MAX_VALUE), -2);
    }

    private static void feelings() {
        PaidBySigns x = Check.hired(TWO + "feel 5 10 3 20 1;");
        check.due("feeling(0)", x.feeling(0), 0);
        check.due("feeling(10)", x.feeling(10), 50);
        check.due("feeling(11)", x.feeling(11), 53);
        check.due("feeling(20)", x.feeling(20), 80);
        check.due("feeling(21)", x.feeling(21), 81);
        check.due("feeling(9999)", x.feeling(9999), 80 + 9979);
        check.due("feeling(-1)", x.feeling(-1), -2);
        check.due("feeling(10000)", x.feeling(10000), -2);
    }

    private static void wages() {
        PaidBySigns x = Check.hired(TWO + "least 5;");
        check.due("wage(0, 4)", x.wage(0, 4), -2);
        check.due("wage(0, 9999)", x.wage(0, 9999), 5);
        check.due("wage(0, 10000)", x.wage(0, 10000), -2);
        check.due("wage(0, 5)", x.wage(0, 5), 9999);
        check.due("wage(1, 6)", x.wage(1, 6), 5);
        check.due("wage(1, 6)", x.wage(1, 6), 6);
        check.due("wage(2, 6)", x.wage(2, 6), -2);
        check.due("wage(-1, 6)", x.wage(-1, 6), -2);
        check.due("wage(0, -1)", x.wage(0, -1), -2);
        check.due("wage(0, 5)", x.wage(0, 5), 5);
    }

    private static void worths() {
        PaidBySigns x = Check.hired(TWO + "feel 3 4 2;");
        check.due("worth(0)", x.worth(0), 0);
        check.due("worth(1)", x.worth(1), -60);
        check.due("leaves(0)", x.leaves(0), 280);
        check.due("leaves(1)", x.leaves(1), 820);
        x.wage(0, 1);
        x.wage(1, 9);
        check.due("worth(0) with wages", x.worth(0), 8 * 3 + 2 * 22);
        check.due("worth(1) with wages", x.worth(1), 2 * 3 + 8 * 22 - 60);
        check.due("leaves(0) with wages", x.leaves(0), 8 * 9 + 2 * 91);
        check.due("leaves(1) with wages", x.leaves(1), 2 * 9 + 8 * 91);
        check.due("does()", x.does(), 1);
        check.due("worth(2)", x.worth(2), NO_NUMBER);
        check.due("worth(-1)", x.worth(-1), NO_NUMBER);
        check.due("leaves(2)", x.leaves(2), NO_NUMBER);
        check.due("leaves(-1)", x.leaves(-1), NO_NUMBER);
        x.wage(0, 9999);
        x.wage(1, 9999);
        check.due("worth(1) at the most", x.worth(1), 10 * (12 + 9995 * 2) - 60);
        check.due("leaves(1) at the most", x.leaves(1), 20 + 800 - 99990);
    }

    private static void alike() {
        PaidBySigns x = Check.hired("sign a brings 0;sign b brings 50;work x costs 0 chances 10 0;"
            + "work y costs 2 chances 0 10;work z costs 2 chances 0 10;work u costs 0 chances 10 0;");
        check.due("does() at nothing", x.does(), 0);
        x.wage(1, 2);
        check.due("alike in WORTH, more left", x.does(), 1);
        x.wage(0, 1);
        check.due("less WORTH", x.does(), 0);
        x.wage(0, 0);
        x.wage(1, 50);
        check.due("more WORTH though nothing is left", x.does(), 1);
        x = Check.hired("sign a brings 0;sign b brings 2;work x costs 0 chances 10 0;"
            + "work y costs 2 chances 0 10;");
        x.wage(1, 2);
        check.due("alike in all: the least", x.does(), 0);
        x = Check.hired("sign a brings 0;sign b brings 1;work x costs 0 chances 10 0;"
            + "work y costs 2 chances 0 10;work z costs 0 chances 10 0;");
        x.wage(1, 2);
        check.due("alike in WORTH, less left", x.does(), 0);
    }

    private static void comes() {
        PaidBySigns x = Check.hired(TWO + "else 2;");
        check.due("comes() for nothing", x.comes(), 0);
        x.wage(1, 9);
        check.due("worth(0)", x.worth(0), 18);
        check.due("comes() a little below", x.comes(), 0);
        x.wage(1, 10);
        check.due("comes() at just else", x.comes(), 1);
        check.due("does()", x.does(), 1);
        x.wage(1, 0);
        x.wage(0, 2);
        check.due("comes() below", x.comes(), 0);
        x.wage(0, 3);
        check.due("comes() by the first WORK", x.comes(), 1);
        x = Check.hired(TWO);
        check.due("comes() with else 0", x.comes(), 1);
    }
}
