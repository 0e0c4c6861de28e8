/** An exact fraction for the tests' own counting; it fails loudly where a long is too small. */
final class Ratio implements Comparable<Ratio> {
    static final Ratio ZERO = new Ratio(0, 1);
    final long up;
    final long low;

    private Ratio(long up, long low) {
        this.up = up;
        this.low = low;
    }

    static Ratio of(long up, long low) {
        if (low == 0) {
            throw new IllegalArgumentException("over 0");
        }
        long part = low;
        long rest = Math.abs(up);
        part = Math.abs(part);
        while (rest != 0) {
            long left = part % rest;
            part = rest;
            rest = left;
        }
        long sign = low < 0 ? -1 : 1;
        return new Ratio(sign * (up / part), sign * (low / part));
    }

    static Ratio of(long up) {
        return new Ratio(up, 1);
    }

    Ratio plus(Ratio other) {
        return of(Math.addExact(Math.multiplyExact(up, other.low), Math.multiplyExact(other.up, low)),
            Math.multiplyExact(low, other.low));
    }

    Ratio minus(Ratio other) {
        return plus(new Ratio(-other.up, other.low));
    }

    Ratio times(Ratio other) {
        return of(Math.multiplyExact(up, other.up), Math.multiplyExact(low, other.low));
    }

    Ratio times(long number) {
        return of(Math.multiplyExact(up, number), low);
    }

    Ratio over(Ratio other) {
        return of(Math.multiplyExact(up, other.low), Math.multiplyExact(low, other.up));
    }

    boolean isZero() {
        return up == 0;
    }

    @Override
    public int compareTo(Ratio other) {
        return Long.compare(Math.multiplyExact(up, other.low), Math.multiplyExact(other.up, low));
    }

    @Override
    public String toString() {
        return up + "/" + low;
    }
}
