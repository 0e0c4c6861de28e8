import java.util.ArrayList;
import java.util.List;
import java.util.Random;

/** Drawn HIRES: what the class tells against what the slow model counts out (promises 7 to 36). */
public final class OracleTest {
    private static final Check check = new Check("OracleTest");

    public static void main(String[] args) {
        int rounds = args.length > 0 ? Integer.parseInt(args[0]) : 250;
        long seed = args.length > 1 ? Long.parseLong(args[1]) : 7;
        Random dice = new Random(seed);
        for (int round = 0; round < rounds && check.wrong() < 20; round++) {
            Model m = round % 4 == 0 ? Model.largest(dice) : Model.random(dice);
            String text = m.text();
            PaidBySigns x = Check.hired(text);
            for (int a = 0; a < m.works(); a++) {
                least(text, x, m, a);
                sums(text, x, m, a, dice);
                proofs(text, x, m, a, dice);
            }
            best(text, x, m, dice);
            hand(text, Check.hired(text), m, dice);
            diary(text, Check.hired(text), m, dice);
        }
        for (int round = 0; round < rounds && check.wrong() < 20; round++) {
            Model m = Model.random(dice);
            // Low costs, so that few coins will often do.
            for (int a = 0; a < m.works(); a++) {
                m.costs[a] %= 8;
            }
            m.other %= 8;
            m.least %= 8;
            String text = m.text();
            PaidBySigns x = Check.hired(text);
            for (int a = 0; a < m.works(); a++) {
                coins(text, x, m, a, dice.nextInt(m.signs() == 4 && dice.nextInt(4) > 0 ? 13 : 21));
            }
        }
        for (int round = 0; round < rounds && check.wrong() < 20; round++) {
            mixes(dice);
        }
        check.finish();
    }

    private static void told(String call, PaidBySigns x, int got, Ratio want, int due) {
        check.due(call, got, want == null ? PaidBySigns.NONE : due);
        if (want != null) {
            check.fraction(call, x, want.up, want.low);
        }
    }

    private static void wages(String call, PaidBySigns x, Ratio[] want) {
        for (int s = 0; s < want.length; s++) {
            check.due(call + " wages " + s + " upper", x.wages(s, false), want[s].up);
            check.due(call + " wages " + s + " lower", x.wages(s, true), want[s].low);
        }
    }

    private static void least(String text, PaidBySigns x, Model m, int a) {
        String call = text + " make(" + a + ")";
        Model.Found found = m.leastCost(a);
        told(call, x, x.make(a), found == null ? null : found.cost(), 1);
        int rises = PaidBySigns.NONE;
        if (found != null) {
            wages(call, x, found.wages());
            rises = 1;
            for (int s = 0; s < m.signs(); s++) {
                for (int t = 0; t < m.signs(); t++) {
                    if (m.brings[t] > m.brings[s] && found.wages()[t].compareTo(found.wages()[s]) < 0) {
                        rises = 0;
                    }
                }
            }
        }
        check.due(text + " rises(" + a + ")", x.rises(a), rises);
        for (int s = 0; s < m.signs(); s++) {
            for (int t = 0; t < m.signs(); t++) {
                if (s != t) {
                    int[] same = new int[m.signs()];
                    for (int i = 0; i < same.length; i++) {
                        same[i] = i == Math.max(s, t) ? Math.min(s, t) : i;
                    }
                    Model.Found merged = m.leastCost(a, same);
                    String mergedCall = text + " merged(" + a + ", " + s + ", " + t + ")";
                    told(mergedCall, x, x.merged(a, s, t), merged == null ? null : merged.cost(), 1);
                }
            }
        }
    }

    private static void sums(String text, PaidBySigns x, Model m, int a, Random dice) {
        int wanted = m.costs[a] + m.other;
        Ratio seen = m.wageFelt(Ratio.of(wanted));
        seen = seen.compareTo(Ratio.of(m.least)) < 0 ? Ratio.of(m.least) : seen;
        told(text + " seen(" + a + ")", x, x.seen(a), seen, 1);

        Model.Found bar = m.bar(a);
        told(text + " bar(" + a + ")", x, x.bar(a), bar == null ? null : bar.cost(), bar == null ? 0 : bar.which());
        for (int s = 0; s < m.signs(); s++) {
            told(text + " crew(" + a + ", " + s + ")", x, x.crew(a, s), m.crew(a, s), 1);
        }
        int price = dice.nextInt(3) == 0 ? dice.nextInt(10000) : dice.nextInt(60);
        Model.Found watch = m.watch(a, price);
        told(text + " watch(" + a + ", " + price + ")", x, x.watch(a, price), watch.cost(), watch.which());

        coins(text, x, m, a, dice.nextInt(m.signs() == 4 && dice.nextInt(4) > 0 ? 10 : 21));
    }

    private static void coins(String text, PaidBySigns x, Model m, int a, int most) {
        Model.Found coins = m.coins(a, most);
        String call = text + " coins(" + a + ", " + most + ")";
        told(call, x, x.coins(a, most), coins == null ? null : coins.cost(), 1);
        if (coins != null) {
            wages(call, x, coins.wages());
        }
    }

    private static void proofs(String text, PaidBySigns x, Model m, int a, Random dice) {
        int by = 1 + dice.nextInt(dice.nextBoolean() ? 9999 : 4);
        int[] press = new int[m.works()];
        for (int b = 0; b < press.length; b++) {
            press[b] = dice.nextInt(2) == 0 ? 0 : dice.nextInt(1 + by / 2 + dice.nextInt(3));
        }
        proved(text, x, m, a, press, dice.nextInt(2) == 0 ? 0 : dice.nextInt(1 + by), by);
        // Numbers as large as can be, whatever D is.
        for (int b = 0; b < press.length; b++) {
            press[b] = dice.nextInt(3) == 0 ? 9999 : dice.nextInt(1 + dice.nextInt(10000));
        }
        proved(text, x, m, a, press, dice.nextInt(3) == 0 ? 9999 : dice.nextInt(10000), by);
    }

    private static void proved(String text, PaidBySigns x, Model m, int a, int[] press, int ofElse, int by) {
        for (int b = 0; b < press.length; b++) {
            x.press(b, press[b]);
        }
        x.press(PaidBySigns.NONE, ofElse);
        x.by(by);
        Ratio proved = m.proved(a, press, ofElse, by);
        told(text + " proves(" + a + ")", x, x.proves(a), proved, 1);
        Model.Found found = m.leastCost(a);
        if (proved != null && found != null) {
            check.due(text + " proves(" + a + ") too much", proved.compareTo(found.cost()) > 0 ? 1 : 0, 0);
        }
    }

    /** HAND with wages that often make WORKS alike, and RATIO of all pairs. */
    private static void hand(String text, PaidBySigns x, Model m, Random dice) {
        for (int turn = 0; turn < 4; turn++) {
            Ratio[] wages = new Ratio[m.signs()];
            for (int s = 0; s < m.signs(); s++) {
                int w = m.least + (turn == 0 ? 0 : dice.nextInt(dice.nextBoolean() ? 6 : 9000));
                wages[s] = Ratio.of(w);
                x.wage(s, w);
                check.due(text + " feeling(" + w + ")", x.feeling(w), m.felt(wages[s]).up);
            }
            int done = m.does(wages);
            check.due(text + " does()", x.does(), done);
            boolean isEnough = m.worth(done, wages).compareTo(Ratio.of(m.other)) >= 0;
            check.due(text + " comes()", x.comes(), isEnough ? 1 : 0);
            for (int a = 0; a < m.works(); a++) {
                check.due(text + " worth(" + a + ")", x.worth(a), m.worth(a, wages).times(m.whole).up);
                check.due(text + " leaves(" + a + ")", x.leaves(a), m.leaves(a, wages).times(m.whole).up);
            }
        }
        for (int a = 0; a < m.works(); a++) {
            for (int b = 0; b < m.works(); b++) {
                check.due(text + " ratio(" + a + ", " + b + ")", x.ratio(a, b), m.isRatio(a, b) ? 1 : 0);
            }
        }
    }

    /** SEEN SIGNS told and put RIGHT in turn; {STEP, SEEN SIGN, SIGN} is kept of each. */
    private static void diary(String text, PaidBySigns x, Model m, Random dice) {
        List<int[]> told = new ArrayList<>();
        int step = dice.nextInt(3);
        int seen = 0;
        for (int turn = 0; turn < 14; turn++) {
            int s = dice.nextInt(m.signs());
            if (seen < 8 && (seen == 0 || dice.nextBoolean())) {
                check.due(text + " see(" + step + ", " + s + ")", x.see(step, s), seen);
                told.add(new int[] {step, seen, s});
                seen++;
            } else {
                step++;
                int k = dice.nextInt(seen);
                int times = 1;
                for (int[] one : told) {
                    times += one[1] == k ? 1 : 0;
                }
                check.due(text + " right(" + step + ", " + k + ", " + s + ")", x.right(step, k, s), times - 1);
                told.add(new int[] {step, k, s});
            }
            step += dice.nextInt(2);
        }
        for (int known = 0; known < step + 2; known++) {
            oddsAt(text, x, m, told, known);
        }
    }

    private static void oddsAt(String text, PaidBySigns x, Model m, List<int[]> told, int step) {
        Integer[] latest = new Integer[8];
        for (int[] one : told) {
            if (one[0] <= step) {
                latest[one[1]] = one[2];
            }
        }
        List<Integer> known = new ArrayList<>();
        for (Integer s : latest) {
            if (s != null) {
                known.add(s);
            }
        }
        int guessed = PaidBySigns.NONE;
        for (int a = 0; a < m.works(); a++) {
            Ratio odds = m.odds(a, known);
            told(text + " odds(" + a + ", " + step + ")", x, x.odds(a, step), odds, 1);
            if (odds != null && (guessed < 0 || odds.compareTo(m.odds(guessed, known)) > 0)) {
                guessed = a;
            }
        }
        check.due(text + " guess(" + step + ")", x.guess(step), guessed);
    }

    /** The last WORK's chances are now and then just those of a MIX of the others. */
    private static void mixes(Random dice) {
        Model m = Model.largest(dice);
        int[] mix = new int[5];
        for (int s = 0; s < 4; s++) {
            m.chances[4][s] = 0;
        }
        for (int b = 0; b < 4; b++) {
            m.chances[b] = new int[4];
            m.chances[b][b] = 10;
            m.chances[4][dice.nextInt(4)] += b == 0 ? 4 : 2;
        }
        int times = 1 + dice.nextInt(100);
        for (int b = 0; b < 4; b++) {
            mix[b] = m.chances[4][b] * times + (dice.nextInt(8) == 0 ? 1 : 0);
            m.costs[b] = dice.nextInt(4);
        }
        mix[4] = dice.nextInt(1001);
        m.costs[4] = dice.nextInt(4);
        PaidBySigns x = Check.hired(m.text());
        for (int b = 0; b < 5; b++) {
            mix[b] = Math.min(mix[b], 1000);
            x.mix(b, mix[b]);
        }
        for (int a = 0; a < 5; a++) {
            check.due(m.text() + " same(" + a + ")", x.same(a), m.isProvedBy(mix, a) ? 1 : 0);
        }
        if (m.isProvedBy(mix, 4)) {
            check.due(m.text() + " make(4)", x.make(4), PaidBySigns.NONE);
        }
    }

    private static void best(String text, PaidBySigns x, Model m, Random dice) {
        Model.Found best = m.best();
        told(text + " best()", x, x.best(), best.cost(), best.which());
        if (dice.nextInt(4) == 0) {
            int a = dice.nextInt(m.works());
            int s = dice.nextInt(m.signs());
            int t = (s + 1 + dice.nextInt(m.signs() - 1)) % m.signs();
            check.due(text + " edge(" + a + ", " + s + ", " + t + ")", x.edge(a, s, t), m.edge(a, s, t));
            check.fraction(text + " edge keeps", x, best.cost().up, best.cost().low);
        }
    }
}
