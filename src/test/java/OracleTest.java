import java.util.Random;

/** Drawn HIRES: what the class tells against what the slow model counts out (promises 7 to 36). */
public final class OracleTest {
    private static final Check check = new Check("OracleTest");

    public static void main(String[] args) {
        int rounds = args.length > 0 ? Integer.parseInt(args[0]) : 250;
        long seed = args.length > 1 ? Long.parseLong(args[1]) : 7;
        Random dice = new Random(seed);
        for (int round = 0; round < rounds && check.wrong() < 20; round++) {
            Model m = Model.random(dice);
            String text = m.text();
            PaidBySigns x = Check.hired(text);
            for (int a = 0; a < m.works(); a++) {
                least(text, x, m, a);
                sums(text, x, m, a, dice);
                proofs(text, x, m, a, dice);
            }
            best(text, x, m, dice);
        }
        for (int round = 0; round < rounds && check.wrong() < 20; round++) {
            Model m = Model.random(dice);
            // Low costs, so that few coins will often do.
            for (int a = 0; a < m.works(); a++) {
                m.costs[a] %= 8;
            }
            m.other %= 8;
            m.least %= 8;
            String text = m.text();
            PaidBySigns x = Check.hired(text);
            for (int a = 0; a < m.works(); a++) {
                coins(text, x, m, a, dice.nextInt(m.signs() == 4 ? 13 : 21));
            }
        }
        check.finish();
    }

    private static void told(String call, PaidBySigns x, int got, Ratio want, int due) {
        check.due(call, got, want == null ? PaidBySigns.NONE : due);
        if (want != null) {
            check.fraction(call, x, want.up, want.low);
        }
    }

    private static void wages(String call, PaidBySigns x, Ratio[] want) {
        for (int s = 0; s < want.length; s++) {
            check.due(call + " wages " + s + " upper", x.wages(s, false), want[s].up);
            check.due(call + " wages " + s + " lower", x.wages(s, true), want[s].low);
        }
    }

    private static void least(String text, PaidBySigns x, Model m, int a) {
        String call = text + " make(" + a + ")";
        Model.Found found = m.leastCost(a);
        told(call, x, x.make(a), found == null ? null : found.cost(), 1);
        int rises = PaidBySigns.NONE;
        if (found != null) {
            wages(call, x, found.wages());
            rises = 1;
            for (int s = 0; s < m.signs(); s++) {
                for (int t = 0; t < m.signs(); t++) {
                    if (m.brings[t] > m.brings[s] && found.wages()[t].compareTo(found.wages()[s]) < 0) {
                        rises = 0;
                    }
                }
            }
        }
        check.due(text + " rises(" + a + ")", x.rises(a), rises);
        for (int s = 0; s < m.signs(); s++) {
            for (int t = 0; t < m.signs(); t++) {
                if (s != t) {
                    int[] same = new int[m.signs()];
                    for (int i = 0; i < same.length; i++) {
                        same[i] = i == Math.max(s, t) ? Math.min(s, t) : i;
                    }
                    Model.Found merged = m.leastCost(a, same);
                    String mergedCall = text + " merged(" + a + ", " + s + ", " + t + ")";
                    told(mergedCall, x, x.merged(a, s, t), merged == null ? null : merged.cost(), 1);
                }
            }
        }
    }

    private static void sums(String text, PaidBySigns x, Model m, int a, Random dice) {
        int wanted = m.costs[a] + m.other;
        Ratio seen = m.wageFelt(Ratio.of(wanted));
        seen = seen.compareTo(Ratio.of(m.least)) < 0 ? Ratio.of(m.least) : seen;
        told(text + " seen(" + a + ")", x, x.seen(a), seen, 1);

        Model.Found bar = m.bar(a);
        told(text + " bar(" + a + ")", x, x.bar(a), bar == null ? null : bar.cost(), bar == null ? 0 : bar.which());
        for (int s = 0; s < m.signs(); s++) {
            told(text + " crew(" + a + ", " + s + ")", x, x.crew(a, s), m.crew(a, s), 1);
        }
        int price = dice.nextInt(3) == 0 ? dice.nextInt(10000) : dice.nextInt(60);
        Model.Found watch = m.watch(a, price);
        told(text + " watch(" + a + ", " + price + ")", x, x.watch(a, price), watch.cost(), watch.which());

        coins(text, x, m, a, dice.nextInt(m.signs() == 4 ? 10 : 21));
    }

    private static void coins(String text, PaidBySigns x, Model m, int a, int most) {
        Model.Found coins = m.coins(a, most);
        String call = text + " coins(" + a + ", " + most + ")";
        told(call, x, x.coins(a, most), coins == null ? null : coins.cost(), 1);
        if (coins != null) {
            wages(call, x, coins.wages());
        }
    }

    private static void proofs(String text, PaidBySigns x, Model m, int a, Random dice) {
        int[] press = new int[m.works()];
        int by = 1 + dice.nextInt(dice.nextBoolean() ? 9999 : 4);
        for (int b = 0; b < press.length; b++) {
            press[b] = dice.nextInt(2) == 0 ? 0 : dice.nextInt(1 + by / 2 + dice.nextInt(3));
            x.press(b, press[b]);
        }
        int ofElse = dice.nextInt(2) == 0 ? 0 : dice.nextInt(1 + by);
        x.press(PaidBySigns.NONE, ofElse);
        x.by(by);
        Ratio proved = m.proved(a, press, ofElse, by);
        told(text + " proves(" + a + ")", x, x.proves(a), proved, 1);
        Model.Found found = m.leastCost(a);
        if (proved != null && found != null) {
            check.due(text + " proves(" + a + ") too much", proved.compareTo(found.cost()) > 0 ? 1 : 0, 0);
        }
    }

    private static void best(String text, PaidBySigns x, Model m, Random dice) {
        Model.Found best = m.best();
        told(text + " best()", x, x.best(), best.cost(), best.which());
        if (dice.nextInt(4) == 0) {
            int a = dice.nextInt(m.works());
            int s = dice.nextInt(m.signs());
            int t = (s + 1 + dice.nextInt(m.signs() - 1)) % m.signs();
            check.due(text + " edge(" + a + ", " + s + ", " + t + ")", x.edge(a, s, t), m.edge(a, s, t));
            check.fraction(text + " edge keeps", x, best.cost().up, best.cost().low);
        }
    }
}
