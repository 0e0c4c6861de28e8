/** THE TAPE and the text of a HIRE (promises 2 to 6). */
public final class TextTest {
    private static final Check check = new Check("TextTest");
    private static final String SIGNS = Hires.SIGNS;
    private static final String WORKS = Hires.WORKS;

    public static void main(String[] args) {
        tape();
        plain();
        tokens();
        syntax();
        range();
        twice();
        room();
        sum();
        leastKind();
        stays();
        startsAnew();
        check.finish();
    }

    private static void tape() {
        PaidBySigns x = new PaidBySigns();
        for (int i = 1; i <= 45; i++) {
            check.due("feed " + i, x.feed(0, -1, 1, 2, 3), 20 * i);
        }
        check.due("feed beyond 900", x.feed(0, 0, 0, 0, 0), -3);
        check.due("count(3)", x.count(3), 900);
        check.due("end(901)", x.end(901), -1);
        check.due("end(-1)", x.end(-1), -1);
        check.due("end(881)", x.end(881), 881);
        check.due("feed to 901", x.feed(0, 0, 0, 0, 0), -3);
        check.due("count(3)", x.count(3), 881);
        check.due("end(880)", x.end(880), 880);
        check.due("feed to 900", x.feed(0, 0, 0, 0, 0), 900);
        check.due("end(0)", x.end(0), 0);
        check.due("end(1)", x.end(1), -1);
        check.due("end(MAX)", x.end(Integer.MAX_VALUE), -1);
        check.due("end(MIN)", x.end(Integer.MIN_VALUE), -1);

        check.due("feed", x.feed(0, 0, 0, 0, 0), 20);
        check.due("end(20) of 20", x.end(20), 20);
        check.due("end(21) of 20", x.end(21), -1);
        x.end(0);

        // The highest byte first: "sign" " q ?" ..
        x.feed('s' << 24 | 'i' << 16 | 'g' << 8 | 'n', ' ' << 24 | 'q' << 16 | ' ' << 8 | '?', 0, 0, 0);
        check.due("hire()", x.hire(), -1);
        check.due("fault(0)", x.fault(0), 1);
        check.due("fault(1)", x.fault(1), 7);
        check.due("hire() empties", x.count(3), 0);
        check.due("hire() of an empty tape", x.hire(), -1);
        check.due("fault(1) at its end", x.fault(1), 0);
        check.due("hire() that tells WORKS", Check.hire(x, SIGNS + WORKS), 2);
        check.due("it empties, too", x.count(3), 0);
    }

    private static void plain() {
        PaidBySigns x = new PaidBySigns();
        String text = "whole 7;sign a brings 5;sign b brings 999;sign c brings 0;sign d brings 12;"
            + "work a costs 3 chances 1 2 3 1;work b costs 99 chances 7 0 0 0;work c costs 0 chances 0 0 0 7;"
            + "work d costs 4 chances 1 1 1 4;work e costs 5 chances 2 2 2 1;feel 5 3 4 99 1;least 99;else 98;";
        check.due("hire()", Check.hire(x, text), 5);
        int[] first = {4, 5, 7, 98, 99, 3, -1, -1, -1, -1, 5, 999, 0, 12, -1, -1, -1, -1, -1, -1, 3, 99, 0, 4, 5, -1,
            -1, -1, -1, -1, 5, 4, 1, -1, -1, -1, -1, -1, -1, -1, 3, 99, -1, -1};
        for (int what = 0; what < first.length; what++) {
            check.due("told(" + what + ")", x.told(what), first[what]);
        }
        check.due("told(-1)", x.told(-1), -1);
        check.due("told(MIN)", x.told(Integer.MIN_VALUE), -1);
        check.due("told(MAX)", x.told(Integer.MAX_VALUE), -1);
        check.due("fault(0)", x.fault(0), 0);
        check.due("fault(1)", x.fault(1), -1);
        check.due("fault(2)", x.fault(2), -1);
        check.due("fault(-1)", x.fault(-1), -1);
        check.due("feeling(3)", x.feeling(3), 15);
        check.due("feeling(99)", x.feeling(99), 15 + 96 * 4);
        check.due("feeling(9999)", x.feeling(9999), 15 + 96 * 4 + 9900);

        check.due("a HIRE without REST", Check.hire(x, SIGNS + WORKS), 2);
        int[] plain = {2, 2, 10, 0, 0, 1};
        for (int what = 0; what < plain.length; what++) {
            check.due("told(" + what + ") then", x.told(what), plain[what]);
        }
        check.due("told(12)", x.told(12), -1);
        check.due("told(31)", x.told(31), -1);
        check.due("one mark", Check.hire(x, SIGNS + WORKS + "feel 2 99 1;"), 2);
        check.due("told(5)", x.told(5), 2);
        check.due("told(40)", x.told(40), 99);
        check.due("told(41)", x.told(41), -1);
    }

    private static void tokens() {
        fault("a run of words is one that is too long", "whole10;signabringsx", 1, 8);
        String tight = "whole10;signsign brings1;sign brings brings2;work sign costs0chances4 6;"
            + "work work costs1chances5 5;else0;least1;feel1;";
        fault("sign and its name run together", tight, 1, 8);
        check.due("keywords are names, blanks are free", Check.hire(new PaidBySigns(),
            "whole10;sign sign brings1;sign brings brings2;\n\nwork sign  costs0chances4 6;\n"
            + "work work costs1chances5 5;else0;least1;feel1;  \n"), 2);
        check.due("four digits", Check.hire(new PaidBySigns(),
            "whole 0010;sign abcdefgh brings 0001;sign abcdefg brings 0999;" + WORKS), 2);
        fault("five digits", "whole 00010;" + SIGNS + WORKS, 1, 6);
        fault("nine letters", "sign abcdefghi brings 1;", 1, 5);
        fault("a capital", "sign a brings 1;Sign", 1, 16);
        fault("a tab", "sign\ta", 1, 4);
        fault("a byte above 127", "sign a" + (char) 233, 1, 6);
        fault("a byte 0", "sign a" + (char) 0, 1, 6);
        fault("a minus", "whole -1;", 1, 6);
        fault("its end behind blanks", "sign a \n ", 1, 9);
        fault("nothing but blanks", "   ", 1, 3);
        fault("a word like sign", "zign a", 1, 0);
        fault("a word like sign", "sigh a", 1, 0);
        fault("more than sign", "signs a", 1, 0);
        fault("less than sign", "sig a", 1, 0);
        PaidBySigns x = new PaidBySigns();
        Check.tape(x, "sign abcd");
        x.end(6);
        check.due("what is cut off is not read", x.hire(), -1);
        check.due("what is cut off is not read", x.fault(1), 6);
        Check.tape(x, SIGNS + WORKS + "least 77;");
        x.end((SIGNS + WORKS).length());
        check.due("what is cut off is not read", x.hire(), 2);
        check.due("what is cut off is not read", x.told(4), 0);
        Check.tape(x, SIGNS + WORKS + "least 777;");
        x.end((SIGNS + WORKS).length() + 7);
        x.feed(';' << 24 | ' ' << 16 | ' ' << 8 | ' ', 0x20202020, 0x20202020, 0x20202020, 0x20202020);
        check.due("what comes behind the cut", x.hire(), 2);
        check.due("what comes behind the cut", x.told(4), 7);
    }

    private static void syntax() {
        fault("a REST first", "else 1;", 1, 0);
        fault("a number first", "7", 1, 0);
        fault("whole twice", "whole 5;whole 5;", 1, 8);
        fault("whole without N", "whole ;", 1, 6);
        fault("whole without ;", "whole 5 sign", 1, 8);
        fault("a SIGN's name is a number", "sign 5", 1, 5);
        fault("no brings", "sign a bring 5;", 1, 7);
        fault("brings a word", "sign a brings b;", 1, 14);
        fault("SIGN without ;", "sign a brings 5 5", 1, 16);
        fault("one SIGN", "sign a brings 1;work x", 1, 16);
        fault("REST for WORK", SIGNS + "else 1;", 1, 32);
        fault("whole behind SIGNS", SIGNS + "whole 5;", 1, 32);
        fault("no WORK", SIGNS, 1, 32);
        fault("no costs", SIGNS + "work x cost 1", 1, 39);
        fault("no chances", SIGNS + "work x costs 1 chance 5 5;", 1, 47);
        fault("too few chances", SIGNS + "work x costs 1 chances 5;", 1, 56);
        fault("no chance", SIGNS + "work x costs 1 chances;", 1, 54);
        fault("too many chances", SIGNS + "work x costs 1 chances 5 5 0;", 1, 59);
        fault("one WORK", SIGNS + "work x costs 0 chances 4 6;", 1, 59);
        fault("one WORK and a REST", SIGNS + "work x costs 0 chances 4 6;else 1;", 1, 59);
        fault("SIGN behind WORKS", SIGNS + WORKS + "sign", 1, 86);
        fault("WORK behind REST", SIGNS + WORKS + "else 1;work", 1, 93);
        fault("another word", SIGNS + WORKS + "rest 1;", 1, 86);
        fault("; too many", SIGNS + WORKS + ";", 1, 86);
        fault("else without N", SIGNS + WORKS + "else ;", 1, 91);
        fault("else without ;", SIGNS + WORKS + "else 5", 1, 92);
        fault("else with two N", SIGNS + WORKS + "else 5 5;", 1, 93);
        fault("feel without N", SIGNS + WORKS + "feel;", 1, 90);
        fault("a MARK without RATE", SIGNS + WORKS + "feel 5 5;", 1, 94);
        fault("feel without ;", SIGNS + WORKS + "feel 5 5 4", 1, 96);
        fault("least a word", SIGNS + WORKS + "least a;", 1, 92);
    }

    private static void range() {
        fault("whole 1", "whole 1;", 2, 6);
        fault("whole 11", "whole 11;", 2, 6);
        fault("brings 1000", "sign a brings 1000;", 2, 14);
        fault("costs 100", SIGNS + "work x costs 100 chances 5 5;", 2, 45);
        fault("a chance above whole", "whole 5;" + SIGNS + "work x costs 1 chances 6 0;", 2, 63);
        fault("else 100", SIGNS + WORKS + "else 100;", 2, 91);
        fault("least 100", SIGNS + WORKS + "least 100;", 2, 92);
        fault("a RATE of 0", SIGNS + WORKS + "feel 0;", 2, 91);
        fault("a RATE of 6", SIGNS + WORKS + "feel 6;", 2, 91);
        fault("a MARK of 0", SIGNS + WORKS + "feel 5 0 4;", 2, 93);
        fault("a MARK of 100", SIGNS + WORKS + "feel 5 100 4;", 2, 93);
        fault("a RATE as the one ahead", SIGNS + WORKS + "feel 5 9 5;", 2, 95);
        fault("a second RATE of 0", SIGNS + WORKS + "feel 5 9 0;", 2, 95);
        fault("no RATE below 1", SIGNS + WORKS + "feel 1 9 1;", 2, 95);
        fault("a MARK as the one ahead", SIGNS + WORKS + "feel 5 9 4 9 3;", 2, 97);
        fault("a third RATE above", SIGNS + WORKS + "feel 5 9 3 10 4;", 2, 100);
        check.due("bounds", Check.hire(new PaidBySigns(), "whole 2;sign a brings 0;sign b brings 999;"
            + "work x costs 0 chances 0 2;work y costs 99 chances 2 0;else 99;least 99;feel 5 98 2 99 1;"), 2);
        check.due("whole 10", Check.hire(new PaidBySigns(), "whole 10;" + SIGNS + WORKS), 2);
    }

    private static void twice() {
        fault("a SIGN's name", "sign a brings 1;sign b brings 2;sign a", 3, 37);
        fault("a WORK's name", SIGNS + "work x costs 0 chances 4 6;work x", 3, 64);
        fault("the third as the second", SIGNS + WORKS + "work y", 3, 91);
        fault("a name ahead of another blank", "sign a brings 1;sign a\nbrings 1;", 3, 21);
        fault("else", SIGNS + WORKS + "else 1;feel 1;else 1;", 3, 100);
        fault("least", SIGNS + WORKS + "least 1;least 1;", 3, 94);
        fault("feel", SIGNS + WORKS + "feel 1;feel 1;", 3, 93);
        check.due("a SIGN and a WORK of one name", Check.hire(new PaidBySigns(),
            SIGNS + "work a costs 0 chances 4 6;work b costs 1 chances 5 5;"), 2);
        check.due("names that begin alike", Check.hire(new PaidBySigns(),
            "sign a brings 1;sign aa brings 2;work xy costs 0 chances 4 6;work xz costs 1 chances 5 5;"), 2);
        check.due("REST in another order", Check.hire(new PaidBySigns(),
            SIGNS + WORKS + "feel 3;least 4;else 5;"), 2);
    }

    private static void room() {
        String five = "sign a brings 1;sign b brings 2;sign c brings 1;sign d brings 2;";
        fault("the fifth SIGN", five + "sign", 4, 64);
        fault("the fifth SIGN ahead of all of it", five + "sign a", 4, 64);
        String more = WORKS + "work z costs 1 chances 5 5;work u costs 1 chances 5 5;work v costs 1 chances 5 5;";
        fault("the sixth WORK", SIGNS + more + "work", 4, 167);
        fault("the sixth WORK behind a REST", SIGNS + more + "feel 1;work", 1, 174);
        fault("the third MARK", SIGNS + WORKS + "feel 5 5 4 6 3 7 2;", 4, 101);
    }

    private static void sum() {
        fault("too little", SIGNS + "work x costs 1 chances 5 4;", 5, 57);
        fault("too much", SIGNS + "work x costs 1 chances 5 6;", 5, 57);
        fault("of three", "whole 4;" + SIGNS + "sign c brings 2;work x costs 1 chances 4 4 4;", 5, 83);
    }

    private static void leastKind() {
        fault("a last chance above whole", SIGNS + "work x costs 1 chances 5 11;", 2, 57);
        fault("a third MARK that does not rise", SIGNS + WORKS + "feel 5 5 4 6 3 6 2;", 2, 101);
        fault("a third MARK of 100", SIGNS + WORKS + "feel 5 5 4 6 3 100 2;", 2, 101);
        fault("the first come to", SIGNS + "work x costs 100 chances 5 4;work x", 2, 45);
    }

    private static void fault(String name, String text, int kind, int place) {
        PaidBySigns x = new PaidBySigns();
        check.due(name + " hire()", Check.hire(x, text), -1);
        check.due(name + " fault(0)", x.fault(0), kind);
        check.due(name + " fault(1)", x.fault(1), place);
        check.due(name + " told(1)", x.told(1), 0);
        check.due(name + " told(2)", x.told(2), 10);
        check.due(name + " count(3)", x.count(3), 0);
    }

    /** With a FAULT the earlier HIRE stays, with all that was told of it. */
    private static void stays() {
        PaidBySigns x = Check.hired(SIGNS + WORKS + "least 3;");
        x.wage(0, 50);
        x.make(1);
        x.press(0, 4);
        x.by(5);
        x.mix(1, 6);
        x.see(7, 1);
        long upper = x.upper();
        check.due("a bad text", Check.hire(x, "whole 5;sign a brings 7;sign b brings 8;work"), -1);
        check.due("fault(1)", x.fault(1), 44);
        check.due("told(2)", x.told(2), 10);
        check.due("told(4)", x.told(4), 3);
        check.due("told(10)", x.told(10), 1);
        check.due("chance(1, 1)", x.chance(1, 1), 5);
        check.due("wage(0, 3)", x.wage(0, 3), 50);
        check.due("upper()", x.upper(), upper);
        check.due("wages(0, true) is told", x.wages(0, true) > 0 ? 1 : 0, 1);
        check.due("press(0, 0)", x.press(0, 0), 4);
        check.due("count(2)", x.count(2), 5);
        check.due("mix(1, 0)", x.mix(1, 0), 6);
        check.due("count(0)", x.count(0), 1);
        check.due("see(6, 0)", x.see(6, 0), -2);
    }

    private static void startsAnew() {
        PaidBySigns x = Check.hired(SIGNS + WORKS);
        x.wage(0, 50);
        x.make(1);
        x.press(0, 4);
        x.press(-1, 4);
        x.by(5);
        x.mix(1, 6);
        x.see(7, 1);
        x.right(8, 0, 0);
        check.due("hire()", Check.hire(x, SIGNS + WORKS + "least 9;"), 2);
        check.due("wage(0, 10)", x.wage(0, 10), 9);
        check.due("wage(1, 10)", x.wage(1, 10), 9);
        check.noFraction("hire()", x);
        check.due("wages(0, false)", x.wages(0, false), -1);
        check.due("wages(0, true)", x.wages(0, true), -1);
        check.due("press(0, 0)", x.press(0, 0), 0);
        check.due("press(-1, 0)", x.press(-1, 0), 0);
        check.due("count(2)", x.count(2), 1);
        check.due("mix(1, 0)", x.mix(1, 0), 0);
        check.due("count(0)", x.count(0), 0);
        check.due("count(1)", x.count(1), 0);
        check.due("see(0, 0)", x.see(0, 0), 0);
        check.due("right(1, 0, 1)", x.right(1, 0, 1), 1);
    }
}
