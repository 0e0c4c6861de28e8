import java.util.ArrayList;
import java.util.List;
import java.util.Random;

/** A HIRE with the document's words counted out as plainly as can be, slowly, as a second opinion. */
final class Model {
    int whole = 10;
    int other = 0;
    int least = 0;
    int[] brings;
    int[] costs;
    int[][] chances;
    int[] rates = {1};
    int[] marks = {};

    /** A cost with the wages (or the one number) that bring it. */
    record Found(Ratio cost, Ratio[] wages, int which) {
    }

    static Model random(Random dice) {
        Model m = new Model();
        m.whole = dice.nextInt(4) == 0 ? 10 : 2 + dice.nextInt(9);
        int signs = 2 + dice.nextInt(3);
        int works = 2 + dice.nextInt(4);
        m.brings = new int[signs];
        for (int s = 0; s < signs; s++) {
            m.brings[s] = dice.nextInt(3) == 0 ? 10 * dice.nextInt(4) : dice.nextInt(1000);
        }
        int dear = dice.nextBoolean() ? 100 : 12;
        m.costs = new int[works];
        m.chances = new int[works][signs];
        for (int a = 0; a < works; a++) {
            m.costs[a] = dice.nextInt(dear);
            for (int i = 0; i < m.whole; i++) {
                m.chances[a][dice.nextInt(1 + dice.nextInt(signs))]++;
            }
            shuffle(m.chances[a], dice);
        }
        if (dice.nextInt(6) == 0 && works > 2) {
            m.chances[works - 1] = m.chances[0].clone();
        }
        m.other = dice.nextInt(3) == 0 ? dice.nextInt(100) : dice.nextInt(4);
        m.least = dice.nextInt(3) == 0 ? dice.nextInt(100) : dice.nextInt(4);
        m.drawRates(dice);
        return m;
    }

    /** As many SIGNS, WORKS and RATES as there can be, with all numbers up to their bounds. */
    static Model largest(Random dice) {
        Model m = new Model();
        m.brings = new int[4];
        for (int s = 0; s < 4; s++) {
            m.brings[s] = dice.nextInt(4) == 0 ? 999 * dice.nextInt(2) : dice.nextInt(1000);
        }
        m.costs = new int[5];
        m.chances = new int[5][4];
        for (int a = 0; a < 5; a++) {
            m.costs[a] = dice.nextInt(3) == 0 ? 99 * dice.nextInt(2) : dice.nextInt(100);
            for (int i = 0; i < 10; i++) {
                m.chances[a][i < 4 && dice.nextInt(3) > 0 ? i : dice.nextInt(4)]++;
            }
        }
        m.other = dice.nextBoolean() ? dice.nextInt(4) : dice.nextInt(100);
        m.least = dice.nextBoolean() ? dice.nextInt(4) : dice.nextInt(100);
        m.rates = dice.nextBoolean() ? new int[] {5, 4, 3} : new int[] {5, 3, 1};
        int mark = 1 + dice.nextInt(dice.nextBoolean() ? 10 : 98);
        m.marks = new int[] {mark, mark + 1 + dice.nextInt(Math.min(99 - mark, dice.nextBoolean() ? 10 : 98))};
        return m;
    }

    private static void shuffle(int[] row, Random dice) {
        for (int i = row.length - 1; i > 0; i--) {
            int j = dice.nextInt(i + 1);
            int kept = row[i];
            row[i] = row[j];
            row[j] = kept;
        }
    }

    private void drawRates(Random dice) {
        int steps = dice.nextInt(3);
        List<Integer> drawn = new ArrayList<>();
        int rate = 1 + dice.nextInt(5);
        drawn.add(rate);
        List<Integer> at = new ArrayList<>();
        int mark = 0;
        int widest = dice.nextBoolean() ? 49 : 8;
        for (int i = 0; i < steps && rate > 1; i++) {
            mark += 1 + dice.nextInt(widest);
            rate = 1 + dice.nextInt(rate - 1);
            at.add(mark);
            drawn.add(rate);
        }
        rates = drawn.stream().mapToInt(Integer::intValue).toArray();
        marks = at.stream().mapToInt(Integer::intValue).toArray();
    }

    String text() {
        StringBuilder out = new StringBuilder("whole " + whole + ";");
        for (int s = 0; s < brings.length; s++) {
            out.append("sign s").append((char) ('a' + s)).append(" brings ").append(brings[s]).append(";");
        }
        for (int a = 0; a < costs.length; a++) {
            out.append("work w").append((char) ('a' + a)).append(" costs ").append(costs[a]).append(" chances");
            for (int n : chances[a]) {
                out.append(' ').append(n);
            }
            out.append(";");
        }
        out.append("else ").append(other).append(";least ").append(least).append(";feel ").append(rates[0]);
        for (int i = 0; i < marks.length; i++) {
            out.append(' ').append(marks[i]).append(' ').append(rates[i + 1]);
        }
        return out.append(";").toString();
    }

    int signs() {
        return brings.length;
    }

    int works() {
        return costs.length;
    }

    Ratio felt(Ratio w) {
        Ratio sum = Ratio.ZERO;
        Ratio from = Ratio.ZERO;
        for (int i = 0; i < rates.length; i++) {
            Ratio to = i == marks.length || w.compareTo(Ratio.of(marks[i])) < 0 ? w : Ratio.of(marks[i]);
            sum = sum.plus(to.minus(from).times(rates[i]));
            from = to;
        }
        return sum;
    }

    /** The wage that is felt so: tried piece by piece and proved by felt. */
    Ratio wageFelt(Ratio f) {
        for (int i = 0; i < rates.length; i++) {
            Ratio from = i == 0 ? Ratio.ZERO : Ratio.of(marks[i - 1]);
            Ratio w = from.plus(f.minus(felt(from)).over(Ratio.of(rates[i])));
            if (w.compareTo(Ratio.ZERO) >= 0 && felt(w).compareTo(f) == 0) {
                return w;
            }
        }
        throw new IllegalStateException("no wage is felt as " + f);
    }

    Ratio worth(int a, Ratio[] wages) {
        Ratio sum = Ratio.ZERO;
        for (int s = 0; s < signs(); s++) {
            sum = sum.plus(felt(wages[s]).times(chances[a][s]));
        }
        return sum.over(Ratio.of(whole)).minus(Ratio.of(costs[a]));
    }

    Ratio cost(int a, Ratio[] wages) {
        Ratio sum = Ratio.ZERO;
        for (int s = 0; s < signs(); s++) {
            sum = sum.plus(wages[s].times(chances[a][s]));
        }
        return sum.over(Ratio.of(whole));
    }

    boolean isDone(int a, Ratio[] wages) {
        Ratio own = worth(a, wages);
        if (own.compareTo(Ratio.of(other)) < 0) {
            return false;
        }
        for (int b = 0; b < works(); b++) {
            if (own.compareTo(worth(b, wages)) < 0) {
                return false;
            }
        }
        for (Ratio w : wages) {
            if (w.compareTo(Ratio.of(least)) < 0) {
                return false;
            }
        }
        return true;
    }

    Ratio leaves(int a, Ratio[] wages) {
        Ratio sum = Ratio.ZERO;
        for (int s = 0; s < signs(); s++) {
            sum = sum.plus(Ratio.of((long) chances[a][s] * brings[s], whole));
        }
        return sum.minus(cost(a, wages));
    }

    int does(Ratio[] wages) {
        int done = 0;
        for (int a = 1; a < works(); a++) {
            int order = worth(a, wages).compareTo(worth(done, wages));
            if (order > 0 || (order == 0 && leaves(a, wages).compareTo(leaves(done, wages)) > 0)) {
                done = a;
            }
        }
        return done;
    }

    boolean isRatio(int a, int b) {
        boolean isSo = true;
        for (int s = 0; s < signs(); s++) {
            for (int t = 0; t < signs(); t++) {
                boolean isLess = chances[a][t] * chances[b][s] < chances[a][s] * chances[b][t];
                isSo &= brings[t] <= brings[s] || !isLess;
            }
        }
        return isSo;
    }

    boolean isProvedBy(int[] mix, int a) {
        int[] numbers = mix.clone();
        numbers[a] = 0;
        int sum = 0;
        for (int n : numbers) {
            sum += n;
        }
        if (sum == 0) {
            return false;
        }
        Ratio dear = Ratio.ZERO;
        Ratio[] comes = new Ratio[signs()];
        for (int s = 0; s < signs(); s++) {
            comes[s] = Ratio.ZERO;
        }
        for (int b = 0; b < works(); b++) {
            dear = dear.plus(Ratio.of((long) numbers[b] * costs[b], sum));
            for (int s = 0; s < signs(); s++) {
                comes[s] = comes[s].plus(Ratio.of((long) numbers[b] * chances[b][s], sum));
            }
        }
        for (int s = 0; s < signs(); s++) {
            if (comes[s].compareTo(Ratio.of(chances[a][s])) != 0) {
                return false;
            }
        }
        return dear.compareTo(Ratio.of(costs[a])) < 0;
    }

    /** ODDS by SIGNS that are known; null where all products are 0. */
    Ratio odds(int a, List<Integer> known) {
        long all = 0;
        long own = 0;
        for (int b = 0; b < works(); b++) {
            long product = 1;
            for (int s : known) {
                product *= chances[b][s];
            }
            all += product;
            own = b == a ? product : own;
        }
        return all == 0 ? null : Ratio.of(own, all);
    }

    /** LEAST COST: every point where enough bounds meet is looked at. same[s] is the SIGN s is paid like. */
    Found leastCost(int a, int[] same) {
        List<Integer> free = new ArrayList<>();
        for (int s = 0; s < signs(); s++) {
            if (same[s] == s) {
                free.add(s);
            }
        }
        Found[] best = new Found[1];
        Ratio[] feels = new Ratio[signs()];
        chooseFixed(a, same, free, 0, feels, best);
        return best[0];
    }

    Found leastCost(int a) {
        int[] same = new int[signs()];
        for (int s = 0; s < same.length; s++) {
            same[s] = s;
        }
        return leastCost(a, same);
    }

    private void chooseFixed(int a, int[] same, List<Integer> free, int at, Ratio[] feels, Found[] best) {
        if (at == free.size()) {
            chooseLines(a, same, free, feels, 0, new ArrayList<>(), best);
            return;
        }
        int s = free.get(at);
        feels[s] = null;
        chooseFixed(a, same, free, at + 1, feels, best);
        feels[s] = felt(Ratio.of(least));
        chooseFixed(a, same, free, at + 1, feels, best);
        for (int mark : marks) {
            if (mark > least) {
                feels[s] = felt(Ratio.of(mark));
                chooseFixed(a, same, free, at + 1, feels, best);
            }
        }
        feels[s] = null;
    }

    private void chooseLines(int a, int[] same, List<Integer> free, Ratio[] feels, int b, List<Integer> lines,
            Found[] best) {
        List<Integer> unknown = new ArrayList<>();
        for (int s : free) {
            if (feels[s] == null) {
                unknown.add(s);
            }
        }
        if (lines.size() == unknown.size()) {
            tryPoint(a, same, feels, unknown, lines, best);
            return;
        }
        if (b == works()) {
            return;
        }
        List<Integer> more = new ArrayList<>(lines);
        more.add(b);
        chooseLines(a, same, free, feels, b + 1, more, best);
        chooseLines(a, same, free, feels, b + 1, lines, best);
    }

    /** Line b: WORTH of a is that of b; line a: WORTH of a is else. */
    private void tryPoint(int a, int[] same, Ratio[] feels, List<Integer> unknown, List<Integer> lines,
            Found[] best) {
        int n = unknown.size();
        Ratio[][] grid = new Ratio[n][n + 1];
        for (int i = 0; i < n; i++) {
            int b = lines.get(i);
            Ratio sum = Ratio.of((long) whole * (b == a ? costs[a] + other : costs[a] - costs[b]));
            for (int j = 0; j < n; j++) {
                grid[i][j] = Ratio.ZERO;
            }
            for (int s = 0; s < signs(); s++) {
                long share = chances[a][s] - (b == a ? 0 : chances[b][s]);
                int j = unknown.indexOf(same[s]);
                if (j >= 0) {
                    grid[i][j] = grid[i][j].plus(Ratio.of(share));
                } else {
                    sum = sum.minus(feels[same[s]].times(share));
                }
            }
            grid[i][n] = sum;
        }
        Ratio[] answer = solved(grid, n);
        if (answer == null) {
            return;
        }
        Ratio[] wages = new Ratio[signs()];
        for (int s = 0; s < signs(); s++) {
            int j = unknown.indexOf(same[s]);
            Ratio f = j >= 0 ? answer[j] : feels[same[s]];
            if (f.compareTo(felt(Ratio.of(least))) < 0) {
                return;
            }
            wages[s] = wageFelt(f);
        }
        if (isDone(a, wages)) {
            Found found = new Found(cost(a, wages), wages, a);
            if (best[0] == null || isBefore(found, best[0])) {
                best[0] = found;
            }
        }
    }

    private static Ratio[] solved(Ratio[][] grid, int n) {
        for (int c = 0; c < n; c++) {
            int r = c;
            while (r < n && grid[r][c].isZero()) {
                r++;
            }
            if (r == n) {
                return null;
            }
            Ratio[] row = grid[r];
            grid[r] = grid[c];
            grid[c] = row;
            for (int i = 0; i < n; i++) {
                if (i != c && !grid[i][c].isZero()) {
                    Ratio times = grid[i][c].over(row[c]);
                    for (int j = c; j <= n; j++) {
                        grid[i][j] = grid[i][j].minus(times.times(row[j]));
                    }
                }
            }
        }
        Ratio[] out = new Ratio[n];
        for (int i = 0; i < n; i++) {
            out[i] = grid[i][n].over(grid[i][i]);
        }
        return out;
    }

    static boolean isBefore(Found one, Found two) {
        int order = one.cost.compareTo(two.cost);
        for (int s = 0; s < one.wages.length && order == 0; s++) {
            order = one.wages[s].compareTo(two.wages[s]);
        }
        return order < 0;
    }

    Found best() {
        Found best = null;
        for (int a = 0; a < works(); a++) {
            Found found = leastCost(a);
            if (found != null) {
                Ratio sum = Ratio.ZERO;
                for (int s = 0; s < signs(); s++) {
                    sum = sum.plus(Ratio.of((long) chances[a][s] * brings[s], whole));
                }
                Ratio leaves = sum.minus(found.cost);
                if (best == null || leaves.compareTo(best.cost) > 0) {
                    best = new Found(leaves, found.wages, a);
                }
            }
        }
        return best;
    }

    int edge(int a, int s, int t) {
        int before = best().which;
        int found = -1;
        int[] kept = chances[a];
        for (int e = 1; found < 0 && kept[s] - e >= 0 && kept[t] + e <= whole; e++) {
            chances[a] = kept.clone();
            chances[a][s] -= e;
            chances[a][t] += e;
            if (best().which != before) {
                found = e;
            }
        }
        chances[a] = kept;
        return found;
    }

    /** COINS: every purse is tried. */
    Found coins(int a, int most) {
        int n = signs();
        int[] purse = new int[n];
        int[] felt = new int[most + 1];
        for (int coin = 0; coin <= most; coin++) {
            felt[coin] = feltCoins(least + coin);
        }
        Found best = null;
        int lowest = Integer.MAX_VALUE;
        boolean isMore = true;
        while (isMore) {
            int paid = 0;
            for (int s = 0; s < n; s++) {
                paid += chances[a][s] * purse[s];
            }
            if (paid <= lowest && isDoneInCoins(a, purse, felt)) {
                lowest = paid;
                Ratio[] wages = new Ratio[n];
                for (int s = 0; s < n; s++) {
                    wages[s] = Ratio.of(least + purse[s]);
                }
                Found found = new Found(cost(a, wages), wages, a);
                if (best == null || isBefore(found, best)) {
                    best = found;
                }
            }
            int s = 0;
            while (s < n && purse[s] == most) {
                purse[s] = 0;
                s++;
            }
            isMore = s < n;
            if (isMore) {
                purse[s]++;
            }
        }
        return best;
    }

    int feltCoins(int w) {
        int sum = 0;
        for (int coin = 1; coin <= w; coin++) {
            int i = 0;
            while (i < marks.length && coin > marks[i]) {
                i++;
            }
            sum += rates[i];
        }
        return sum;
    }

    private boolean isDoneInCoins(int a, int[] purse, int[] felt) {
        long own = worthTimesWhole(a, purse, felt);
        boolean isFine = own >= (long) whole * other;
        for (int b = 0; b < works() && isFine; b++) {
            isFine = own >= worthTimesWhole(b, purse, felt);
        }
        return isFine;
    }

    private long worthTimesWhole(int a, int[] purse, int[] felt) {
        long sum = -(long) whole * costs[a];
        for (int s = 0; s < signs(); s++) {
            sum += (long) chances[a][s] * felt[purse[s]];
        }
        return sum;
    }

    private Ratio[] payFrom(int bar, Ratio x) {
        Ratio[] wages = new Ratio[signs()];
        for (int s = 0; s < signs(); s++) {
            wages[s] = brings[s] >= brings[bar] ? x : Ratio.of(least);
        }
        return wages;
    }

    /** A test of one sum, told for sums by their FEELING: how far WORTH of a is above each thing it must reach. */
    private interface Gaps {
        Ratio[] at(Ratio x);
    }

    /** The least sum with no gap below 0: the gaps go straight in FEELING, so two points tell where one is 0. */
    private Ratio leastSum(Gaps gaps) {
        Ratio low = Ratio.of(least);
        Ratio lowFelt = felt(low);
        Ratio one = wageFelt(lowFelt.plus(Ratio.of(1)));
        Ratio[] atLow = gaps.at(low);
        Ratio[] atOne = gaps.at(one);
        List<Ratio> tries = new ArrayList<>();
        tries.add(low);
        for (int i = 0; i < atLow.length; i++) {
            Ratio slope = atOne[i].minus(atLow[i]);
            if (!slope.isZero()) {
                Ratio f = lowFelt.minus(atLow[i].over(slope));
                if (f.compareTo(lowFelt) >= 0) {
                    tries.add(wageFelt(f));
                }
            }
        }
        Ratio best = null;
        for (Ratio x : tries) {
            boolean isFine = true;
            for (Ratio gap : gaps.at(x)) {
                isFine &= gap.compareTo(Ratio.ZERO) >= 0;
            }
            if (isFine && (best == null || x.compareTo(best) < 0)) {
                best = x;
            }
        }
        return best;
    }

    Found bar(int a) {
        Found best = null;
        for (int s = 0; s < signs(); s++) {
            int bar = s;
            Ratio x = leastSum(sum -> gapsOf(a, b -> worth(b, payFrom(bar, sum))));
            if (x != null) {
                Ratio cost = cost(a, payFrom(s, x));
                if (best == null || cost.compareTo(best.cost) < 0) {
                    best = new Found(cost, null, s);
                }
            }
        }
        return best;
    }

    private Ratio[] gapsOf(int a, java.util.function.IntFunction<Ratio> worths) {
        Ratio own = worths.apply(a);
        Ratio[] out = new Ratio[works() + 1];
        for (int b = 0; b < works(); b++) {
            out[b] = b == a ? Ratio.ZERO : own.minus(worths.apply(b));
        }
        out[works()] = own.minus(Ratio.of(other));
        return out;
    }

    /** Both SIGNS are gone through, pair by pair. */
    private Ratio crewMean(int mine, int others, int bar, Ratio ifBoth, Ratio ifNot) {
        Ratio sum = Ratio.ZERO;
        for (int s = 0; s < signs(); s++) {
            for (int t = 0; t < signs(); t++) {
                boolean isBoth = brings[s] >= brings[bar] && brings[t] >= brings[bar];
                Ratio one = isBoth ? ifBoth : ifNot;
                sum = sum.plus(one.times((long) chances[mine][s] * chances[others][t]));
            }
        }
        return sum.over(Ratio.of((long) whole * whole));
    }

    Ratio crew(int a, int bar) {
        Ratio low = Ratio.of(least);
        Ratio x = leastSum(sum -> gapsOf(a,
            b -> crewMean(b, a, bar, felt(sum), felt(low)).minus(Ratio.of(costs[b]))));
        return x == null ? null : crewMean(a, a, bar, x, low);
    }

    Found watch(int a, int price) {
        Found best = null;
        Ratio low = Ratio.of(least);
        for (int n = 0; n <= whole; n++) {
            Ratio q = Ratio.of(n, whole);
            Ratio x = leastSum(sum -> gapsOf(a, b -> {
                Ratio caught = b == a ? felt(sum) : felt(low);
                Ratio paid = q.times(caught).plus(Ratio.of(1).minus(q).times(felt(sum)));
                return paid.minus(Ratio.of(costs[b]));
            }));
            if (x != null) {
                Ratio cost = x.plus(q.times(price));
                if (best == null || cost.compareTo(best.cost) < 0) {
                    best = new Found(cost, null, n);
                }
            }
        }
        return best;
    }

    /** What PRESS proves, by the document's sum; null where there is no least. */
    Ratio proved(int a, int[] press, int pressOfElse, int by) {
        Ratio sum = Ratio.of((long) pressOfElse * (costs[a] + other), by);
        for (int b = 0; b < works(); b++) {
            sum = sum.plus(Ratio.of((long) press[b] * (costs[a] - costs[b]), by));
        }
        for (int s = 0; s < signs(); s++) {
            Ratio k = Ratio.of((long) pressOfElse * chances[a][s], (long) by * whole);
            for (int b = 0; b < works(); b++) {
                k = k.plus(Ratio.of((long) press[b] * (chances[a][s] - chances[b][s]), (long) by * whole));
            }
            Ratio lowest = null;
            for (int w = least; w <= 101; w++) {
                Ratio at = Ratio.of((long) chances[a][s] * w, whole).minus(felt(Ratio.of(w)).times(k));
                if (w == 101 && at.compareTo(lowest) < 0) {
                    return null;
                }
                lowest = lowest == null || at.compareTo(lowest) < 0 ? at : lowest;
            }
            sum = sum.plus(lowest);
        }
        return sum;
    }
}
