/** THE TAPE and the text of a HIRE at their bounds (term I, promises 1 to 6), sentence by sentence. */
public final class TextBoundsTest {
    private static final Check check = new Check("TextBoundsTest");
    private static final String SIGNS = Hires.SIGNS;
    private static final String WORKS = Hires.WORKS;
    private static final String THREE = SIGNS + "sign c brings 3;";
    private static final String FOUR = THREE + "sign d brings 4;";
    private static final String FIVE_WORKS = WORKS
        + "work z costs 2 chances 1 9;work u costs 3 chances 2 8;work v costs 4 chances 3 7;";
    private static final String PLAIN = SIGNS + WORKS;
    private static final int BLANKS = 0x20202020;

    public static void main(String[] args) {
        fullTape();
        emptied();
        blanks();
        words();
        numbers();
        semicolons();
        wholeOnce();
        howManySigns();
        howManyWorks();
        howManyChances();
        names();
        rests();
        boundsOfSignsAndWorks();
        boundsOfChances();
        boundsOfRests();
        boundsOfFeel();
        notTold();
        places();
        firstComeTo();
        leastKind();
        noTextGoesOn();
        twice();
        room();
        sum();
        lastCall();
        newObject();
        feed();
        end();
        hire();
        hireAnew();
        faultOfLatest();
        told();
        check.finish();
    }

    private static void fine(String text, int works) {
        PaidBySigns x = new PaidBySigns();
        check.due("hire() of [" + text + "]", Check.hire(x, text), works);
        check.due("fault(0) of [" + text + "]", x.fault(0), 0);
        check.due("fault(1) of [" + text + "]", x.fault(1), -1);
    }

    /** The FAULT of a text whose PLACE is marked by a ^, which is taken out. */
    private static void fault(int kind, String marked) {
        int place = marked.indexOf('^');
        faultAt(kind, place, marked.substring(0, place) + marked.substring(place + 1));
    }

    private static void faultAt(int kind, int place, String text) {
        PaidBySigns x = new PaidBySigns();
        check.due("hire() of [" + text + "]", Check.hire(x, text), -1);
        check.due("fault(0) of [" + text + "]", x.fault(0), kind);
        check.due("fault(1) of [" + text + "]", x.fault(1), place);
    }

    /** Blanks between two texts, so that all has just so many bytes. */
    private static String filled(String head, String tail, int bytes) {
        return head + " ".repeat(bytes - head.length() - tail.length()) + tail;
    }

    private static void fullTape() {
        check.by("Term I", "THE TAPE has at most 900 bytes");
        PaidBySigns x = Check.hired(filled(PLAIN, "least 7;", 900));
        check.due("told(4) of the last bytes", x.told(4), 7);
        fine(filled(PLAIN, "least 7;", 899), 2);
        faultAt(1, 899, filled(PLAIN, "?", 900));
        faultAt(1, 900, filled(PLAIN, "least 7", 900));
        faultAt(1, 900, filled(PLAIN, "least", 900));
        faultAt(1, 891, filled(PLAIN, "abcdefghi", 900));
        faultAt(1, 895, filled(PLAIN, "00007", 900));
    }

    private static void emptied() {
        check.by("Term I", "each call that reads it empties it, whatever it tells");
        PaidBySigns x = new PaidBySigns();
        check.due("a sound text", Check.hire(x, PLAIN), 2);
        check.due("count(3)", x.count(3), 0);
        check.due("end(1)", x.end(1), -1);
        check.due("a text with a FAULT", Check.hire(x, PLAIN + "least 100;"), -1);
        check.due("count(3)", x.count(3), 0);
        check.due("hire() of what is left", x.hire(), -1);
        check.due("fault(0)", x.fault(0), 1);
        check.due("fault(1)", x.fault(1), 0);
        check.due("feed()", x.feed(BLANKS, BLANKS, BLANKS, BLANKS, BLANKS), 20);
        State.seenBy(x);
        check.due("other calls leave it", x.count(3), 20);
    }

    private static void blanks() {
        check.by("Term I", "TOKENS with any blanks (32, 10) between");
        for (int sign = 0; sign < 256; sign++) {
            if (sign == 32 || sign == 10) {
                fine((char) sign + PLAIN, 2);
                fine(PLAIN + (char) sign, 2);
            } else {
                faultAt(1, 0, (char) sign + PLAIN);
                faultAt(1, PLAIN.length(), PLAIN + (char) sign);
            }
        }
        fine("whole10;sign a brings1;sign b brings2;work x costs0chances4 6;work y costs1chances5 5;else0;", 2);
        fine((" " + PLAIN + "feel 3 4 2 ;").replace(";", "\n ;\n\n").replace(" ", " \n  \n"), 2);
    }

    private static void words() {
        check.by("Term I", "WORDS (small letters, as many as there are, 8 at most)");
        String tail = " brings 1;sign bb brings 2;" + WORKS;
        for (int sign = 0; sign < 256; sign++) {
            String text = "sign " + (char) sign + tail;
            if (sign >= 'a' && sign <= 'z') {
                fine(text, 2);
            } else if (sign == 32 || sign == 10) {
                faultAt(1, 14, text);
            } else {
                faultAt(1, 5, text);
            }
        }
        fine("sign abcdefgh" + tail, 2);
        fault(1, "sign ^abcdefghi" + tail);
        fault(1, "sign ^" + "z".repeat(200) + tail);
        fault(1, "^signa" + tail);
        fault(1, "sign a ^bringsb 1;");
        fault(1, "^sig n" + tail);
        wordsAlmost(PLAIN.replace("sign a", "whole 10;sign a") + "else 1;least 1;feel 1;");
    }

    /** Each word that is no name with another first letter, another last letter, one letter less, one more. */
    private static void wordsAlmost(String text) {
        String[] keys = {"whole", "sign", "brings", "work", "costs", "chances", "else", "least", "feel"};
        fine(text, 2);
        for (String key : keys) {
            int place = text.indexOf(key);
            String head = text.substring(0, place);
            String tail = text.substring(place + key.length());
            int last = key.length() - 1;
            String[] almost = {"z" + key.substring(1), key.substring(0, last) + "z", key.substring(0, last), key + "z",
                key.substring(1)};
            for (String word : almost) {
                faultAt(1, place, head + word + tail);
            }
        }
    }

    private static void numbers() {
        check.by("Term I", "N (digits, as many as there are, 4 at most)");
        String head = "sign a brings ";
        String tail = ";sign b brings 2;" + WORKS;
        for (int sign = 0; sign < 256; sign++) {
            String text = head + (char) sign + tail;
            if (sign >= '0' && sign <= '9') {
                fine(text, 2);
                check.due("told(10)", Check.hired(text).told(10), sign - '0');
            } else {
                boolean isBlank = sign == 32 || sign == 10;
                faultAt(1, head.length() + (isBlank ? 1 : 0), text);
            }
        }
        check.due("told(10) of four digits", Check.hired(head + "0999" + tail).told(10), 999);
        check.due("told(10) of four digits", Check.hired(head + "0000" + tail).told(10), 0);
        fault(1, head + "^00001" + tail);
        fault(1, head + "^" + "9".repeat(200) + tail);
        fault(1, head + "1 ^2" + tail);
        fault(1, head + "^-1" + tail);
    }

    private static void semicolons() {
        check.by("Term I", "4 at most), ;.");
        String head = "sign a brings 1";
        for (int sign = 0; sign < 256; sign++) {
            boolean isOfNumber = sign >= '0' && sign <= '9';
            boolean isPassed = isOfNumber || sign == 32 || sign == 10;
            String text = head + (char) sign + "sign b brings 2;" + WORKS;
            if (sign == ';') {
                fine(text, 2);
            } else {
                faultAt(1, head.length() + (isPassed ? 1 : 0), text);
            }
        }
        fault(1, "sign a brings 1;^;sign b brings 2;" + WORKS);
        fault(1, "sign^; a brings 1;");
    }

    private static void wholeOnce() {
        check.by("Term I", "A HIRE is a text = [\"whole\" N \";\"]");
        fine(PLAIN, 2);
        fine("whole 10;" + PLAIN, 2);
        fault(1, "whole 10;^whole 10;" + PLAIN);
        fault(1, PLAIN + "^whole 10;");
        fault(1, SIGNS + "^whole 10;" + WORKS);
        fault(1, "whole^;" + PLAIN);
        fault(1, "whole 10 ^sign");
        fault(1, "^");
        fault(1, "whole^");
        fault(1, "whole 10^");
        fault(1, "whole 10;^");
    }

    private static void howManySigns() {
        check.by("Term I", "SIGN SIGN {SIGN}");
        fault(1, "^" + WORKS);
        fault(1, "sign a brings 1;^" + WORKS);
        fault(1, "sign a brings 1;^");
        fine(PLAIN, 2);
        fine(THREE + "work x costs 0 chances 1 2 7;work y costs 0 chances 1 2 7;", 2);
        fine(FOUR + "work x costs 0 chances 1 2 3 4;work y costs 0 chances 1 2 3 4;", 2);
        check.by("Term I", "SIGN = \"sign\" W \"brings\" N \";\"");
        fault(1, "sign^");
        fault(1, "sign ^5 brings 1;");
        fault(1, "sign a^");
        fault(1, "sign a ^1;");
        fault(1, "sign a brings^");
        fault(1, "sign a brings^;");
        fault(1, "sign a brings 1^");
        fault(1, "sign a brings 1 ^sign");
        check.by("Term I", "SIGNS (2 .. 4) and WORKS (2 .. 5) are numbered from 0 as they come");
        PaidBySigns x = Check.hired(Hires.MOST);
        int[] brings = {5, 999, 0, 12};
        int[] costs = {3, 99, 0, 4, 5};
        for (int s = 0; s < 4; s++) {
            check.due("told(1" + s + ")", x.told(10 + s), brings[s]);
        }
        for (int a = 0; a < 5; a++) {
            check.due("told(2" + a + ")", x.told(20 + a), costs[a]);
        }
    }

    private static void howManyWorks() {
        check.by("Term I", "WORK WORK {WORK} {REST}");
        fault(1, SIGNS + "^");
        fault(1, SIGNS + "^else 1;");
        fault(1, SIGNS + "work x costs 0 chances 4 6;^");
        fault(1, SIGNS + "work x costs 0 chances 4 6;^else 1;");
        fine(PLAIN, 2);
        fine(SIGNS + FIVE_WORKS, 5);
        fault(1, PLAIN + "^sign c brings 1;");
        fault(1, PLAIN + "else 1;^work z costs 0 chances 4 6;");
        check.by("Term I", "WORK = \"work\" W \"costs\" N \"chances\" N {N} \";\"");
        fault(1, SIGNS + "work^");
        fault(1, SIGNS + "work ^1 costs");
        fault(1, SIGNS + "work x ^1");
        fault(1, SIGNS + "work x costs ^chances");
        fault(1, SIGNS + "work x costs 1 ^4 6;");
        fault(1, SIGNS + "work x costs 1 chances 4 6^");
        fault(1, SIGNS + "work x costs 1 chances 4 6 ^work");
    }

    private static void howManyChances() {
        check.by("Term I", "as many N behind chances as there are SIGNS");
        fault(1, SIGNS + "work x costs 0 chances^;");
        fault(1, SIGNS + "work x costs 0 chances 10^;");
        fault(1, SIGNS + "work x costs 0 chances 10 0 ^0;");
        fault(1, THREE + "work x costs 0 chances 4 6^;");
        fault(1, THREE + "work x costs 0 chances 4 6 0 ^0;");
        fault(1, FOUR + "work x costs 0 chances 4 6 0^;");
        fault(1, FOUR + "work x costs 0 chances 4 6 0 0 ^0;");
    }

    private static void names() {
        check.by("Term I", "each with a name (any WORD)");
        fine("sign sign brings 1;sign work brings 2;work whole costs 0 chances 4 6;"
            + "work chances costs 1 chances 5 5;work else costs 1 chances 5 5;", 3);
        fine("sign brings brings 1;sign abcdefgh brings 2;work costs costs 0 chances 4 6;"
            + "work feel costs 1 chances 5 5;work least costs 1 chances 5 5;", 3);
    }

    private static void rests() {
        check.by("Term I", "REST = (\"else\" N | \"least\" N | \"feel\" N {N N}) \";\"");
        fine(PLAIN, 2);
        fine(PLAIN + "feel 1;least 0;else 0;", 2);
        String[] one = {"else", "least"};
        for (String word : one) {
            fine(PLAIN + word + " 1;", 2);
            fault(1, PLAIN + word + "^");
            fault(1, PLAIN + word + "^;");
            fault(1, PLAIN + word + " ^x;");
            fault(1, PLAIN + word + " 1^");
            fault(1, PLAIN + word + " 1 ^1;");
        }
        fault(1, PLAIN + "feel^");
        fault(1, PLAIN + "feel^;");
        fault(1, PLAIN + "feel 5^");
        fault(1, PLAIN + "feel 5 ^x;");
        fault(1, PLAIN + "feel 5 5^;");
        fault(1, PLAIN + "feel 5 5^");
        fault(1, PLAIN + "feel 5 5 4^");
        fault(1, PLAIN + "feel 5 5 4 6^;");
        fault(1, PLAIN + "feel 5 5 4 6 3^");
        fault(1, PLAIN + "feel 5 5 4 6 3 ^else");
        fault(1, PLAIN + "^;");
        fault(1, PLAIN + "^5;");
        fault(1, PLAIN + "^rest 5;");
    }

    /** Each number from 0 to 1001, and the highest: those in the bounds make the text sound, others are RANGE. */
    private static void bounds(String head, String tail, int low, int high, int what) {
        for (int n = 0; n <= 1002; n++) {
            int number = n == 1002 ? 9999 : n;
            String text = head + number + tail;
            if (number >= low && number <= high) {
                check.due("told(" + what + ") of [" + text + "]", Check.hired(text).told(what), number);
            } else {
                faultAt(2, head.length(), text);
            }
        }
    }

    private static void boundsOfSignsAndWorks() {
        check.by("Term I", "whole 2 .. 10 (10)");
        for (int n = 0; n <= 1000; n++) {
            if (n >= 2 && n <= 10) {
                String works = "work x costs 0 chances 0 " + n + ";work y costs 0 chances " + n + " 0;";
                check.due("told(2)", Check.hired("whole " + n + ";" + SIGNS + works).told(2), n);
            } else {
                faultAt(2, 6, "whole " + n + ";" + PLAIN);
            }
        }
        fault(2, "whole ^9999;" + PLAIN);
        check.by("Term I", "brings 0 .. 999");
        bounds("sign a brings ", ";sign b brings 2;" + WORKS, 0, 999, 10);
        bounds("sign a brings 3;sign b brings ", ";" + WORKS, 0, 999, 11);
        check.by("Term I", "costs 0 .. 99,");
        bounds(SIGNS + "work x costs ", " chances 4 6;work y costs 1 chances 5 5;", 0, 99, 20);
        bounds(SIGNS + "work x costs 1 chances 4 6;work y costs ", " chances 5 5;", 0, 99, 21);
    }

    private static void boundsOfChances() {
        check.by("Term I", "chances 0 .. whole");
        for (int whole = 2; whole <= 10; whole++) {
            String head = "whole " + whole + ";" + THREE + "work x costs 0 chances ";
            String tail = "work y costs 0 chances " + whole + " 0 0;";
            fine(head + whole + " 0 0;" + tail, 2);
            fine(head + "0 " + whole + " 0;" + tail, 2);
            fine(head + "0 0 " + whole + ";" + tail, 2);
            fault(2, head + "^" + (whole + 1) + " 0 0;" + tail);
            fault(2, head + "0 ^" + (whole + 1) + " 0;" + tail);
            fault(2, head + "0 0 ^" + (whole + 1) + ";" + tail);
            fault(2, head + "^9999 0 0;" + tail);
        }
        fault(2, THREE + "work x costs 0 chances ^11 0 0;");
    }

    private static void boundsOfRests() {
        check.by("Term I", "else 0 .. 99 (0)");
        bounds(PLAIN + "else ", ";", 0, 99, 3);
        check.by("Term I", "least 0 .. 99 (0)");
        bounds(PLAIN + "least ", ";", 0, 99, 4);
    }

    private static void boundsOfFeel() {
        check.by("Term I", "feel: a RATE 1 .. 5 (1)");
        bounds(PLAIN + "feel ", ";", 1, 5, 30);
        check.by("Term I", "then at most twice a MARK (1 .. 99, above the MARK ahead of it)");
        bounds(PLAIN + "feel 5 ", " 4;", 1, 99, 40);
        bounds(PLAIN + "feel 5 1 4 ", " 3;", 2, 99, 41);
        bounds(PLAIN + "feel 5 50 4 ", " 3;", 51, 99, 41);
        bounds(PLAIN + "feel 5 98 4 ", " 3;", 99, 99, 41);
        fault(2, PLAIN + "feel 5 99 4 ^99 3;");
        fault(2, PLAIN + "feel 5 99 4 ^100 3;");
        check.by("Term I", "and a RATE (1 .. 5, below the RATE ahead of it)");
        for (int rate = 2; rate <= 5; rate++) {
            bounds(PLAIN + "feel " + rate + " 9 ", ";", 1, rate - 1, 31);
        }
        for (int rate = 2; rate <= 4; rate++) {
            bounds(PLAIN + "feel 5 9 " + rate + " 10 ", ";", 1, rate - 1, 32);
        }
        fault(2, PLAIN + "feel 1 9 ^1;");
        fault(2, PLAIN + "feel 1 9 ^0;");
        fault(2, PLAIN + "feel 2 9 1 10 ^1;");
        fault(2, PLAIN + "feel 2 9 1 10 ^0;");
    }

    private static void notTold() {
        check.by("Term I", "Bounds (and what isn't told)");
        PaidBySigns x = Check.hired(Hires.MOST);
        check.due("a text that tells none of it", Check.hire(x, PLAIN), 2);
        int[] due = {2, 2, 10, 0, 0, 1};
        for (int what = 0; what < due.length; what++) {
            check.due("told(" + what + ")", x.told(what), due[what]);
        }
        check.due("told(30)", x.told(30), 1);
        check.due("told(31)", x.told(31), -1);
        check.due("told(40)", x.told(40), -1);
        // Nothing of an earlier text is left, neither of one that was told nor of one with a FAULT.
        String[] earlier = {Hires.MOST, Hires.MOST + "?", "whole 4;" + THREE + "work x costs 0 chances 4 0 0;?"};
        for (String text : earlier) {
            for (int times = 0; times < 2; times++) {
                Check.hire(x, text);
                Check.hire(x, Hires.MOST);
                check.due("hire() behind others", Check.hire(x, PLAIN), 2);
                for (int what = 0; what < due.length; what++) {
                    check.due("told(" + what + ")", x.told(what), due[what]);
                }
            }
        }
    }

    private static void places() {
        check.by("Term I", "KIND and PLACE (a TOKEN's first byte; the text's length at its end)");
        fault(2, "whole \n ^0011;");
        fault(1, "sign a \n\n  ^9999 1;");
        fault(3, "sign a brings 1;sign \n ^a\n brings 2;");
        fault(4, FOUR + "\n ^sign");
        fault(5, SIGNS + "work x costs 1 chances 5 \n ^004\n ;");
        fault(1, "sign a \n ^");
        fault(1, "  ^");
        PaidBySigns x = new PaidBySigns();
        Check.tape(x, PLAIN);
        x.end(PLAIN.length() - 1);
        check.due("hire() of a text that was cut", x.hire(), -1);
        check.due("fault(1)", x.fault(1), PLAIN.length() - 1);
    }

    private static void firstComeTo() {
        check.by("Term I", "the first come to as TOKENS are read one by one");
        fault(5, SIGNS + "work x costs 1 chances 5 ^4 4;?");
        fault(4, FOUR + "^sign ? brings 1000");
        fault(3, "sign a brings 1;sign ^a brings 1000;?");
        fault(2, "sign a brings ^1000;sign a ?");
        fault(1, "sign a ^? brings 1000;");
        fault(2, "whole ^11 ?");
        fault(5, SIGNS + "work x costs 1 chances 5 ^4");
        fault(4, PLAIN + "feel 5 5 4 6 3 ^7");
    }

    private static void leastKind() {
        check.by("Term I", "of one TOKEN the least KIND");
        fault(1, "whole ^99999;");
        fault(1, SIGNS + "work x costs 1 chances 5 5 ^11;");
        fault(2, SIGNS + "work x costs 1 chances 5 ^11;");
        fault(2, PLAIN + "feel 5 5 4 6 3 ^6 2;");
        fault(2, PLAIN + "feel 5 5 4 6 3 ^0 2;");
        fault(2, PLAIN + "feel 5 5 4 6 3 ^100 2;");
        fault(2, PLAIN + "feel 5 5 4 99 3 ^99 2;");
        fault(4, PLAIN + "feel 5 5 4 6 3 ^99 2;");
    }

    private static void noTextGoesOn() {
        check.by("Term I", "1 SYNTAX: a TOKEN (or byte that is none, a run that is too long) with which no text goes on");
        fault(1, SIGNS + "^feel 1;");
        fault(1, "sign a ^costs 1;");
        fault(1, "sign a brings ^b;");
        fault(1, "sign a brings 1^" + (char) 200);
        fault(1, "sign a^" + (char) 0);
        fault(1, "sign a brings ^12345;");
        fault(1, PLAIN + "^elseelseelse 1;");
        check.by("Term I", "2 RANGE: an N out of its bounds");
        fault(2, "sign a brings ^1000;");
        fine("sign a brings 999;sign b brings 0;" + WORKS, 2);
    }

    private static void twice() {
        check.by("Term I", "3 TWICE: a name that a SIGN (a WORK) has");
        fault(3, "sign a brings 1;sign ^a");
        fault(3, SIGNS + "sign ^a");
        fault(3, SIGNS + "sign ^b");
        fault(3, THREE + "sign ^c");
        fault(3, THREE + "sign ^a");
        fault(3, "sign abcdefgh brings 1;sign ^abcdefgh brings 2;");
        fault(3, SIGNS + "work x costs 0 chances 4 6;work ^x");
        fault(3, PLAIN + "work ^x");
        fault(3, SIGNS + FIVE_WORKS.substring(0, FIVE_WORKS.indexOf("work v")) + "work ^u");
        fine("sign abcdefgh brings 1;sign abcdefg brings 2;sign bbcdefgh brings 2;sign abcdefgg brings 2;"
            + "work a costs 0 chances 4 6 0 0;work aa costs 1 chances 5 5 0 0;", 2);
        fine(SIGNS + "work a costs 0 chances 4 6;work b costs 1 chances 5 5;", 2);
        check.by("Term I", "else, least, feel told again");
        String[] rests = {"else 1;", "least 1;", "feel 1;"};
        for (String one : rests) {
            fine(PLAIN + one, 2);
            fault(3, PLAIN + one + "^" + one);
            for (String two : rests) {
                if (!two.equals(one)) {
                    fine(PLAIN + one + two, 2);
                    fault(3, PLAIN + one + two + "^" + one);
                    fault(3, PLAIN + one + two + "^" + two);
                }
            }
        }
        for (String one : rests) {
            fault(3, PLAIN + "least 1;feel 1;else 1;^" + one);
        }
        fault(1, PLAIN + "least 1;feel 1;else 1;^work");
    }

    private static void room() {
        check.by("Term I", "4 ROOM: the fifth SIGN, the sixth WORK, at its first WORD");
        fault(4, FOUR + "^sign");
        fault(4, FOUR + "^sign a brings 1000;");
        fault(4, SIGNS + FIVE_WORKS + "^work");
        fault(4, SIGNS + FIVE_WORKS + "^work x costs 100 chances 4 5;");
        fine(SIGNS + FIVE_WORKS + "else 1;", 5);
        fault(1, SIGNS + FIVE_WORKS + "else 1;^work");
        check.by("Term I", "the third MARK");
        fine(PLAIN + "feel 5 5 4 6 3;", 2);
        fault(4, PLAIN + "feel 5 5 4 6 3 ^7 2;");
        fault(4, PLAIN + "feel 3 5 2 6 1 ^7 1;");
        fault(4, PLAIN + "feel 5 5 4 6 3 ^7;");
    }

    private static void sum() {
        check.by("Term I", "5 SUM: the chances of a WORK don't add to whole, at its last N");
        for (int last = 0; last <= 10; last++) {
            String head = SIGNS + "work x costs 0 chances 4 ";
            String tail = ";work y costs 1 chances 5 5;";
            if (last == 6) {
                fine(head + last + tail, 2);
            } else {
                fault(5, head + "^" + last + tail);
            }
        }
        fault(5, "whole 2;" + FOUR + "work x costs 0 chances 2 2 2 ^2;");
        fault(5, FOUR + "work x costs 0 chances 0 0 0 ^0;");
        fault(5, SIGNS + "work x costs 0 chances 4 6;work y costs 0 chances 6 ^3;");
        fault(5, "whole 9;" + SIGNS + "work x costs 0 chances 4 ^6;");
    }

    private static void lastCall() {
        check.by("What it is", "An object is used for at most 512 calls after it has been made");
        PaidBySigns x = new PaidBySigns();
        for (int call = 1; call <= 501; call++) {
            check.due("hire()", x.hire(), -1);
        }
        // It goes by five calls of feed(), two of end() and hire().
        check.due("hire() as the 509th call", Check.hire(x, PLAIN), 2);
        check.due("make(1)", x.make(1), 1);
        check.due("does() as the 511th call", x.does(), 0);
        check.due("best() as the 512th call", x.best(), 0);
    }

    private static void newObject() {
        check.by("Promise 1", "No HIRE: no SIGNS, no WORKS.");
        PaidBySigns x = new PaidBySigns();
        check.due("told(0)", x.told(0), 0);
        check.due("told(1)", x.told(1), 0);
        check.due("does()", x.does(), -4);
        for (int n = -1; n <= 5; n++) {
            for (int m = -1; m <= 5; m++) {
                check.due("chance(" + n + ", " + m + ")", x.chance(n, m), -2);
                check.due("wage(" + n + ", " + m + ")", x.wage(n, m), -2);
            }
            check.due("told(10 + " + n + ")", n < 0 ? -1 : x.told(10 + n), -1);
            check.due("told(20 + " + n + ")", n < 0 ? -1 : x.told(20 + n), -1);
        }
        check.due("count(0)", x.count(0), 0);
        check.due("count(3)", x.count(3), 0);
        PaidBySigns other = Check.hired(PLAIN);
        check.due("a second object", other.told(1), 2);
        check.due("the first one still", x.told(1), 0);
    }

    private static void feed() {
        check.by("Promise 2", "Twenty bytes come behind THE TAPE, the highest of each int first: how many it has");
        PaidBySigns x = new PaidBySigns();
        check.due("feed()", x.feed(0x7369676e, 0x20612062, 0x72696e67, 0x73203120, 0x3b7369fe), 20);
        check.due("hire() of [sign a brings 1 ;si?]", x.hire(), -1);
        check.due("fault(0)", x.fault(0), 1);
        check.due("fault(1)", x.fault(1), 17);
        check.due("feed()", x.feed(0x7369676e, 0x20612062, 0x72696e67, 0x73203120, 0xffffffff), 20);
        check.due("hire() of [sign a brings 1 ????]", x.hire(), -1);
        check.due("fault(1)", x.fault(1), 16);
        check.due("feed()", x.feed(BLANKS, BLANKS, BLANKS, BLANKS, 0x2020203f), 20);
        check.due("end(19)", x.end(19), 19);
        check.due("feed() behind 19", x.feed(BLANKS, BLANKS, BLANKS, BLANKS, 0x2020203f), 39);
        check.due("hire()", x.hire(), -1);
        check.due("fault(1) of the last byte", x.fault(1), 38);
        check.by("Promise 2", "FULL when there would be more than 900.");
        x = new PaidBySigns();
        Check.tape(x, filled(PLAIN, "least 7;", 900));
        check.due("feed() of 900", x.feed(-1, -1, -1, -1, -1), -3);
        check.due("count(3)", x.count(3), 900);
        check.due("hire() of what it had", x.hire(), 2);
        check.due("told(4)", x.told(4), 7);
        for (int bytes = 880; bytes <= 900; bytes++) {
            Check.tape(x, " ".repeat(bytes));
            check.due("feed() of " + bytes, x.feed(-1, -1, -1, -1, -1), bytes == 880 ? 900 : -3);
            check.due("count(3)", x.count(3), bytes == 880 ? 900 : bytes);
        }
    }

    private static void end() {
        check.by("Promise 3", "THE TAPE has its first n bytes alone: n");
        PaidBySigns x = new PaidBySigns();
        check.due("end(0) of nothing", x.end(0), 0);
        Check.tape(x, PLAIN + "least 45;");
        check.due("end() of all it has", x.end(PLAIN.length() + 9), PLAIN.length() + 9);
        check.due("end() two bytes ahead", x.end(PLAIN.length() + 7), PLAIN.length() + 7);
        check.due("feed()", x.feed(0x3b202020, BLANKS, BLANKS, BLANKS, BLANKS), PLAIN.length() + 27);
        check.due("hire()", x.hire(), 2);
        check.due("told(4)", x.told(4), 4);
        check.by("Promise 3", "NONE when it has not so many, or n is below 0.");
        check.due("end(1) of nothing", x.end(1), -1);
        Check.tape(x, PLAIN);
        int[] wrong = {PLAIN.length() + 1, 900, 901, Integer.MAX_VALUE, -1, Integer.MIN_VALUE};
        for (int n : wrong) {
            check.due("end(" + n + ")", x.end(n), -1);
            check.due("count(3)", x.count(3), PLAIN.length());
        }
        check.due("hire() of what it had", x.hire(), 2);
        Check.tape(x, " ".repeat(900));
        check.due("end(901) of 900", x.end(901), -1);
        check.due("end(900) of 900", x.end(900), 900);
        check.due("end(0) of 900", x.end(0), 0);
        check.due("count(3)", x.count(3), 0);
    }

    private static void hire() {
        check.by("Promise 4", "THE TAPE is the HIRE: how many WORKS");
        fine(PLAIN, 2);
        fine(SIGNS + FIVE_WORKS, 5);
        check.by("Promise 4", "NONE with a FAULT (it stays).");
        String[] faulty = {"", "whole 11;", "whole 5;sign u brings 7;sign u brings 8;", FOUR + "sign e brings 1;",
            "whole 5;" + THREE + "work u costs 77 chances 1 1 1;", PLAIN + "least 50;else 50;feel 5 3 4 6 2 7 1;",
            Hires.MOST + "?"};
        for (String text : faulty) {
            PaidBySigns x = State.rich();
            String before = State.seenBy(x);
            check.due("hire() of [" + text + "]", Check.hire(x, text), -1);
            String after = State.seenBy(x);
            check.due("all stays: " + before + " and " + after, State.sameButFault(before, after) ? 1 : 0, 1);
            check.due("the latest STEP of telling, too", x.see(8, 0), -2);
        }
        PaidBySigns x = new PaidBySigns();
        check.due("hire() with a FAULT ahead of any", Check.hire(x, Hires.MOST + "?"), -1);
        check.due("told(1)", x.told(1), 0);
        check.due("told(2)", x.told(2), 10);
        check.due("does()", x.does(), -4);
    }

    private static void hireAnew() {
        check.by("Promise 4", "HAND is least, PRESS and MIX are 0 (D 1), SEEN SIGNS none, "
            + "the latest STEP of telling 0 then, and no FRACTION and WAGES are told.");
        PaidBySigns x = State.rich();
        check.due("hire()", Check.hire(x, Hires.MOST), 5);
        for (int s = 0; s < 4; s++) {
            check.due("wages(" + s + ", false)", x.wages(s, false), -1);
            check.due("wages(" + s + ", true)", x.wages(s, true), -1);
            check.due("wage(" + s + ", 99)", x.wage(s, 99), 99);
        }
        check.noFraction("hire()", x);
        for (int b = -1; b < 5; b++) {
            check.due("press(" + b + ", 0)", x.press(b, 0), 0);
            check.due("mix(" + b + ", 0)", x.mix(b, 0), b < 0 ? -2 : 0);
        }
        check.due("count(0)", x.count(0), 0);
        check.due("count(1)", x.count(1), 0);
        check.due("count(2)", x.count(2), 1);
        check.due("by(1)", x.by(1), 1);
        check.due("see(0, 0)", x.see(0, 0), 0);
        check.due("right(1, 0, 1)", x.right(1, 0, 1), 1);
        x = new PaidBySigns();
        x.press(-1, 9);
        x.by(9);
        check.due("the first hire()", Check.hire(x, PLAIN), 2);
        check.due("press(-1, 0)", x.press(-1, 0), 0);
        check.due("by(1)", x.by(1), 1);
    }

    private static void faultOfLatest() {
        check.by("Promise 5", "its FAULT's KIND, 0 without (and ahead of any), 1: its PLACE (NONE).");
        PaidBySigns x = new PaidBySigns();
        check.due("fault(0) ahead of any", x.fault(0), 0);
        check.due("fault(1) ahead of any", x.fault(1), -1);
        Check.hire(x, "whole 11;");
        check.due("fault(0)", x.fault(0), 2);
        check.due("fault(1)", x.fault(1), 6);
        check.due("fault(0) told again", x.fault(0), 2);
        Check.tape(x, PLAIN);
        check.due("fault(0) ahead of the next hire()", x.fault(0), 2);
        check.by("Promise 5", "Of the latest hire()");
        check.due("hire()", x.hire(), 2);
        check.due("fault(0) without", x.fault(0), 0);
        check.due("fault(1) without", x.fault(1), -1);
        Check.hire(x, "sign a brings 1;sign a");
        check.due("fault(0)", x.fault(0), 3);
        check.due("fault(1)", x.fault(1), 21);
        x.hire();
        check.due("fault(0)", x.fault(0), 1);
        check.due("fault(1) 0 is a PLACE", x.fault(1), 0);
        check.by("Promise 5", "NONE for another what.");
        for (int what : new int[] {-1, 2, 3, Integer.MAX_VALUE, Integer.MIN_VALUE}) {
            check.due("fault(" + what + ")", x.fault(what), -1);
        }
    }

    private static void told() {
        check.by("Promise 6", "What 0: SIGNS, 1: WORKS, 2: whole, 3: else, 4: least, 5: how many RATES; 10 + s: what SIGN s "
            + "brings, 20 + a: costs of WORK a, 30 + i: RATE i, 40 + i: MARK i. NONE for others.");
        toldIs(Hires.MOST, new int[] {4, 5, 7, 98, 99, 3}, new int[] {5, 999, 0, 12}, new int[] {3, 99, 0, 4, 5},
            new int[] {5, 4, 1}, new int[] {3, 99});
        toldIs(PLAIN, new int[] {2, 2, 10, 0, 0, 1}, new int[] {1, 2}, new int[] {0, 1}, new int[] {1}, new int[] {});
        toldIs(PLAIN + "feel 2 99 1;", new int[] {2, 2, 10, 0, 0, 2}, new int[] {1, 2}, new int[] {0, 1},
            new int[] {2, 1}, new int[] {99});
        toldIs("", new int[] {0, 0, 10, 0, 0, 1}, new int[] {}, new int[] {}, new int[] {1}, new int[] {});
    }

    private static void toldIs(String text, int[] first, int[] brings, int[] costs, int[] rates, int[] marks) {
        PaidBySigns x = text.isEmpty() ? new PaidBySigns() : Check.hired(text);
        int[][] rows = {first, brings, costs, rates, marks};
        for (int what = -20; what < 70; what++) {
            int row = Math.floorDiv(what, 10);
            int at = Math.floorMod(what, 10);
            boolean isThere = row >= 0 && row < 5 && at < rows[row].length;
            check.due("told(" + what + ") of [" + text + "]", x.told(what), isThere ? rows[row][at] : -1);
        }
        check.due("told(MAX)", x.told(Integer.MAX_VALUE), -1);
        check.due("told(MIN)", x.told(Integer.MIN_VALUE), -1);
    }
}
