import java.util.Random;

/** Drawn calls with any numbers in any order: none throws, and the same calls give the same answers. */
public final class WildTest {
    private static final Check check = new Check("WildTest");

    public static void main(String[] args) {
        int rounds = args.length > 0 ? Integer.parseInt(args[0]) : 400;
        for (int round = 0; round < rounds; round++) {
            Random one = new Random(round);
            Random two = new Random(round);
            PaidBySigns x = new PaidBySigns();
            PaidBySigns y = new PaidBySigns();
            for (int call = 0; call < 512; call++) {
                check.due("round " + round + " call " + call, call(x, one), call(y, two));
            }
        }
        check.finish();
    }

    private static int number(Random dice) {
        int[] some = {Integer.MIN_VALUE, Integer.MAX_VALUE, -1, -2, 10000, 9999, 1000, 999, 20, 21, 901};
        return dice.nextInt(8) == 0 ? some[dice.nextInt(some.length)] : dice.nextInt(dice.nextInt(4) == 0 ? 45 : 4);
    }

    private static long call(PaidBySigns x, Random dice) {
        int a = number(dice);
        int b = number(dice);
        int c = number(dice);
        switch (dice.nextInt(40)) {
            case 0: return dice.nextBoolean() ? x.feed(a, b, c, dice.nextInt(), dice.nextInt()) : x.end(a);
            case 1: return x.end(a);
            case 2:
            case 3: return Check.hire(x, Model.random(dice).text());
            case 4: return x.fault(a);
            case 5: return x.told(a);
            case 6: return x.chance(a, b);
            case 7: return x.feeling(a);
            case 8: return x.wage(a, b);
            case 9: return x.worth(a);
            case 10: return x.leaves(a);
            case 11: return x.does();
            case 12: return x.comes();
            case 13: return x.upper();
            case 14: return x.lower();
            case 15: return x.make(a);
            case 16: return x.wages(a, dice.nextBoolean());
            case 17: return x.seen(a);
            case 18: return x.best();
            case 19: return x.merged(a, b, c);
            case 20: return x.coins(a, b);
            case 21: return x.bar(a);
            case 22: return x.crew(a, b);
            case 23: return x.watch(a, b);
            case 24: return x.press(a, b);
            case 25: return x.by(a);
            case 26: return x.proves(a);
            case 27: return x.mix(a, b);
            case 28: return x.same(a);
            case 29: return x.edge(a, b, c);
            case 30: return x.ratio(a, b);
            case 31: return x.rises(a);
            case 32: return x.see(a, b);
            case 33: return x.right(a, b, c);
            case 34: return x.odds(a, b);
            case 35: return x.guess(a);
            case 36: return x.count(a);
            case 37: return x.hire();
            case 38: return Check.hire(x, Model.random(dice).text().substring(dice.nextInt(9)));
            default: return x.press(-1, a);
        }
    }
}
