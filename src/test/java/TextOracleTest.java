import java.util.ArrayList;
import java.util.List;
import java.util.Random;
import java.util.regex.Matcher;
import java.util.regex.Pattern;

/** Drawn texts, sound and spoilt, against a reading by patterns (promises 4 to 6). */
public final class TextOracleTest {
    private static final Check check = new Check("TextOracleTest");
    private static final String[] KEYS = {"whole", "sign", "brings", "work", "costs", "chances", "else", "least",
        "feel"};
    private static final String LETTERS = "OSBKCHELF";
    private static final String NAME = "[OSBKCHELFw]";

    private record Token(char type, String text, int place) {
    }

    public static void main(String[] args) {
        int rounds = args.length > 0 ? Integer.parseInt(args[0]) : 30000;
        Random dice = new Random(args.length > 1 ? Long.parseLong(args[1]) : 5);
        for (int round = 0; round < rounds && check.wrong() < 20; round++) {
            String text = Model.random(dice).text();
            if (dice.nextInt(3) == 0) {
                text = text.replace("else 0;", "").replace("least 0;", "").replace("whole 10;", "");
            }
            int spoils = dice.nextInt(4);
            for (int i = 0; i < spoils; i++) {
                text = spoilt(text, dice);
            }
            if (text.length() <= 880) {
                compare(text);
            }
        }
        check.finish();
    }

    private static void compare(String text) {
        int[] want = fault(text);
        PaidBySigns x = new PaidBySigns();
        int got = Check.hire(x, text);
        check.due("[" + text + "] fault(0)", x.fault(0), want[0]);
        check.due("[" + text + "] fault(1)", x.fault(1), want[1]);
        check.due("[" + text + "] told", got > 0 ? 1 : 0, want[0] == 0 ? 1 : 0);
    }

    private static String spoilt(String text, Random dice) {
        int at = dice.nextInt(text.length() + 1);
        String[] bits = {";", " ", "\n", "7", "0", "100", "99", "a", "sign", "work", "else 3;", "least 2;", "feel 3 4 1;",
            "whole 9;", "costs", "chances", "brings", "A", "-", " 3 ", "feel 5 1 4 2 3 3 2;", "feel 4 9 3 9 2;",
            "sign sf brings 3;", "aaaaaaaaa", "00000", String.valueOf((char) 200), "\t"};
        int to = Math.min(text.length(), at + 1 + dice.nextInt(3));
        switch (dice.nextInt(5)) {
            case 0:
                return text.substring(0, at) + bits[dice.nextInt(bits.length)] + text.substring(at);
            case 1:
                return text.substring(0, at) + text.substring(to);
            case 2:
                return text + bits[dice.nextInt(bits.length)];
            case 3:
                return statementMoved(text, dice);
            default:
                return numberChanged(text, dice);
        }
    }

    /** Some statement comes once more, elsewhere. */
    private static String statementMoved(String text, Random dice) {
        String[] parts = text.split("(?<=;)");
        int to = dice.nextInt(parts.length);
        StringBuilder out = new StringBuilder();
        for (int i = 0; i < parts.length; i++) {
            out.append(i == to ? parts[dice.nextInt(parts.length)] : "").append(parts[i]);
        }
        return out.toString();
    }

    private static String numberChanged(String text, Random dice) {
        Matcher numbers = Pattern.compile("[0-9]+").matcher(text);
        List<int[]> all = new ArrayList<>();
        while (numbers.find()) {
            all.add(new int[] {numbers.start(), numbers.end()});
        }
        if (all.isEmpty()) {
            return text;
        }
        int[] one = all.get(dice.nextInt(all.size()));
        int[] values = {0, 1, 2, 5, 6, 10, 11, 99, 100, 999, 1000, 9999};
        return text.substring(0, one[0]) + values[dice.nextInt(values.length)] + text.substring(one[1]);
    }

    private static List<Token> tokens(String text) {
        List<Token> out = new ArrayList<>();
        Matcher m = Pattern.compile("[ \n]+|([a-z]+)|([0-9]+)|(;)|(.)", Pattern.DOTALL).matcher(text);
        while (m.find()) {
            String bit = m.group();
            if (m.group(1) != null) {
                out.add(new Token(bit.length() > 8 ? '!' : letterOf(bit), bit, m.start()));
            } else if (m.group(2) != null) {
                out.add(new Token(bit.length() > 4 ? '!' : 'n', bit, m.start()));
            } else if (m.group(3) != null || m.group(4) != null) {
                out.add(new Token(bit.equals(";") ? ';' : '!', bit, m.start()));
            }
        }
        return out;
    }

    private static char letterOf(String word) {
        for (int i = 0; i < KEYS.length; i++) {
            if (KEYS[i].equals(word)) {
                return LETTERS.charAt(i);
            }
        }
        return 'w';
    }

    /** KIND and PLACE. A row of tokens goes on if the grammar's pattern ends with it or wants more. */
    private static int[] fault(String text) {
        StringBuilder whole = new StringBuilder("(On;)?(");
        for (int signs = 2; signs <= 5; signs++) {
            whole.append(signs == 2 ? "" : "|").append("(S").append(NAME).append("Bn;){").append(signs)
                .append("}(K").append(NAME).append("CnHn{").append(signs).append("};){2,}");
        }
        Pattern grammar = Pattern.compile(whole + ")((E|L)n;|Fn(nn)*;)*");
        List<Token> tokens = tokens(text);
        StringBuilder row = new StringBuilder();
        for (int i = 0; i < tokens.size(); i++) {
            row.append(tokens.get(i).type);
            Matcher m = grammar.matcher(row);
            int kind = m.matches() || m.hitEnd() ? meaning(tokens.subList(0, i + 1)) : 1;
            if (kind != 0) {
                return new int[] {kind, tokens.get(i).place};
            }
        }
        return grammar.matcher(row).matches() ? new int[] {0, -1} : new int[] {1, text.length()};
    }

    /** The least KIND from 2 on of the last token, by the statements ahead of it. */
    private static int meaning(List<Token> tokens) {
        List<List<Token>> statements = new ArrayList<>();
        statements.add(new ArrayList<>());
        for (Token token : tokens) {
            if (token.type == ';') {
                statements.add(new ArrayList<>());
            } else {
                statements.get(statements.size() - 1).add(token);
            }
        }
        List<Token> now = statements.get(statements.size() - 1);
        if (now.isEmpty()) {
            return 0;
        }
        int at = now.size() - 1;
        int value = now.get(at).type == 'n' ? Integer.parseInt(now.get(at).text) : -1;
        List<List<Token>> ahead = new ArrayList<>();
        int whole = 10;
        int signs = 0;
        for (List<Token> statement : statements.subList(0, statements.size() - 1)) {
            if (statement.get(0).type == now.get(0).type) {
                ahead.add(statement);
            }
            signs += statement.get(0).type == 'S' ? 1 : 0;
            whole = statement.get(0).type == 'O' ? Integer.parseInt(statement.get(1).text) : whole;
        }
        switch (now.get(0).type) {
            case 'O':
                return at == 1 && (value < 2 || value > 10) ? 2 : 0;
            case 'S':
                return ofNamed(now, ahead, at, value, 4, 999);
            case 'K':
                int kind = ofNamed(now, ahead, at, value, 5, 99);
                return kind == 0 && at >= 5 ? ofChance(now, value, whole, signs) : kind;
            case 'F':
                return at == 0 ? ahead.isEmpty() ? 0 : 3 : ofRate(now, at, value);
            default:
                return at == 0 ? ahead.isEmpty() ? 0 : 3 : value > 99 ? 2 : 0;
        }
    }

    private static int ofNamed(List<Token> now, List<List<Token>> ahead, int at, int value, int room, int most) {
        if (at == 0) {
            return ahead.size() >= room ? 4 : 0;
        }
        if (at == 1) {
            for (List<Token> other : ahead) {
                if (other.get(1).text.equals(now.get(1).text)) {
                    return 3;
                }
            }
        }
        return at == 3 && value > most ? 2 : 0;
    }

    private static int ofChance(List<Token> now, int value, int whole, int signs) {
        if (value > whole) {
            return 2;
        }
        int sum = 0;
        for (Token token : now.subList(5, now.size())) {
            sum += Integer.parseInt(token.text);
        }
        return now.size() == 5 + signs && sum != whole ? 5 : 0;
    }

    private static int ofRate(List<Token> now, int at, int value) {
        int before = at >= 3 ? Integer.parseInt(now.get(at - 2).text) : -1;
        if (at % 2 == 1) {
            return value < 1 || value > 5 || (at >= 3 && value >= before) ? 2 : 0;
        }
        if (value < 1 || value > 99 || (at >= 4 && value <= before)) {
            return 2;
        }
        return at >= 6 ? 4 : 0;
    }
}
