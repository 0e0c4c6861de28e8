/** All that can be asked of an object without changing it, to see that a call left all as it was. */
final class State {
    private State() {
    }

    /** An object of which there is much to tell: WAGES, a FRACTION, HAND, PRESS, MIX and SEEN SIGNS. */
    static PaidBySigns rich() {
        PaidBySigns x = Check.hired(Hires.MEAN + "least 3;else 5;feel 3 4 2;");
        x.make(1);
        x.wage(0, 50);
        x.wage(1, 60);
        x.press(0, 4);
        x.press(2, 6);
        x.press(PaidBySigns.NONE, 7);
        x.by(5);
        x.mix(0, 8);
        x.mix(1, 8);
        x.see(7, 1);
        x.see(8, 0);
        x.right(9, 0, 0);
        x.seen(2);
        return x;
    }

    /** Some 120 calls; PRESS, MIX, HAND and D are told by being put to what they were. */
    static String seenBy(PaidBySigns x) {
        StringBuilder out = new StringBuilder();
        out.append(x.fault(0)).append(' ').append(x.fault(1)).append('|');
        for (int what = 0; what < 44; what++) {
            add(out, x.told(what));
        }
        for (int a = 0; a < x.told(1); a++) {
            for (int s = 0; s < x.told(0); s++) {
                add(out, x.chance(a, s));
            }
            add(out, x.worth(a));
            add(out, x.leaves(a));
            add(out, x.same(a));
            add(out, kept(x, a));
        }
        add(out, x.does());
        add(out, x.comes());
        add(out, x.upper());
        add(out, x.lower());
        for (int s = 0; s < x.told(0); s++) {
            add(out, x.wages(s, false));
            add(out, x.wages(s, true));
            int paid = x.wage(s, x.told(4));
            add(out, paid);
            x.wage(s, paid);
        }
        int ofElse = x.press(PaidBySigns.NONE, 0);
        add(out, ofElse);
        x.press(PaidBySigns.NONE, ofElse);
        for (int known = 6; known < 11; known++) {
            add(out, x.guess(known));
        }
        for (int what = 0; what < 4; what++) {
            add(out, x.count(what));
        }
        return out.toString();
    }

    static boolean sameButFault(String one, String other) {
        return one.substring(one.indexOf('|')).equals(other.substring(other.indexOf('|')));
    }

    private static void add(StringBuilder out, long answer) {
        out.append(answer).append(' ');
    }

    private static long kept(PaidBySigns x, int b) {
        int press = x.press(b, 0);
        x.press(b, press);
        int mix = x.mix(b, 0);
        x.mix(b, mix);
        return press * 10000L + mix;
    }
}
