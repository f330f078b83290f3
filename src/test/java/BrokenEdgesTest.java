import java.math.BigInteger;

/** Promise 16: each edge that is told of broken, from both sides. */
public final class BrokenEdgesTest {
    public static void main(String[] args) {
        nRange();
        badRange();
        partRange();
        noneAndAllBad();
        withoutACommonDivisor();
        Check.end();
    }

    // "n is not 1 .. 1000000"
    private static void nRange() {
        for (int i = 0; i < 4; i++) {
            int part = i;
            Edges.takenWhole("n, none bad", 1, 1000000, Twins.ANY, (x, n) -> x.broken(n, 0, part),
                    n -> fraction(n, 0, part));
            Edges.takenWhole("n, all bad", 1, 1000000, Twins.ANY, (x, n) -> x.broken(n, n, part),
                    n -> fraction(n, n, part));
            Edges.refusedWhole("n", 1, 1000000, Check.ARGUMENT, Twins.ANY, (x, n) -> x.broken(n, 0, part));
            Edges.refusedWhole("n, all bad", 1, 1000000, Check.ARGUMENT, Twins.ANY, (x, n) -> x.broken(n, n, part));
        }
    }

    // "or bad not 0 .. n"
    private static void badRange() {
        for (int i = 0; i < 4; i++) {
            int part = i;
            for (int size : new int[] {1, 2, 7, 999999, 1000000}) {
                int n = size;
                Edges.takenWhole("bad of " + n, 0, n, Twins.WITHOUT_ALL, (x, bad) -> x.broken(n, bad, part),
                        bad -> fraction(n, bad, part));
                Edges.refusedWhole("bad of " + n, 0, n, Check.ARGUMENT, Twins.ANY, (x, bad) -> x.broken(n, bad, part));
            }
        }
    }

    // "IndexOutOfBoundsException: another part"
    private static void partRange() {
        Edges.takenWhole("part", 0, 3, Twins.ANY, (x, part) -> x.broken(9, 4, part),
                part -> new int[] {2, 5, 1, 2}[part]);
        Edges.refusedWhole("part", 0, 3, Check.INDEX, Twins.ANY, (x, part) -> x.broken(9, 4, part));
        for (int part : new int[] {-1, 4, Integer.MIN_VALUE, Integer.MAX_VALUE}) {
            Twins.refused("no part, and no n", Check.INDEX, Twins.ANY, x -> x.broken(0, 0, part));
            Twins.refused("no part, and no bad", Check.INDEX, Twins.ANY, x -> x.broken(9, 10, part));
            Twins.refused("no part, and neither", Check.INDEX, Twins.ANY, x -> x.broken(1000001, -1, part));
        }
    }

    // "between (bad) / (n + 1) and (bad + 1) / (n + 1)": 0 / 1 at one end, 1 / 1 at the other.
    private static void noneAndAllBad() {
        SteamBends x = new SteamBends();
        for (int size : new int[] {1, 2, 3, 999, 999999, 1000000}) {
            int n = size;
            Check.due("none is 0", 0, () -> x.broken(n, 0, 0));
            Check.due("of 1", 1, () -> x.broken(n, 0, 1));
            Check.due("one more is 1", 1, () -> x.broken(n, 0, 2));
            Check.due("of n + 1", n + 1, () -> x.broken(n, 0, 3));
            Check.due("all are n", n, () -> x.broken(n, n, 0));
            Check.due("of n + 1", n + 1, () -> x.broken(n, n, 1));
            Check.due("one more is 1", 1, () -> x.broken(n, n, 2));
            Check.due("of 1", 1, () -> x.broken(n, n, 3));
        }
    }

    // "without a common divisor": each fraction by its own one.
    private static void withoutACommonDivisor() {
        SteamBends x = new SteamBends();
        for (int size : new int[] {1, 2, 3, 5, 11, 23, 59}) {
            for (int i = 0; i <= size; i++) {
                for (int j = 0; j < 4; j++) {
                    int n = size;
                    int bad = i;
                    int part = j;
                    Check.due(bad + " of " + n + ", part " + part, fraction(n, bad, part),
                            () -> x.broken(n, bad, part));
                }
            }
        }
        for (int bad : new int[] {1, 2, 499999, 500000, 514228, 650000, 720719, 999998}) {
            for (int j = 0; j < 4; j++) {
                int part = j;
                Check.due(bad + " of many, part " + part, fraction(999999, bad, part),
                        () -> x.broken(999999, bad, part));
                Check.due(bad + " of most, part " + part, fraction(1000000, bad, part),
                        () -> x.broken(1000000, bad, part));
            }
        }
    }

    private static long fraction(int n, int bad, int part) {
        BigInteger above = BigInteger.valueOf(part < 2 ? bad : bad + 1);
        BigInteger below = BigInteger.valueOf(n + 1);
        BigInteger asked = part % 2 == 0 ? above : below;
        return asked.divide(above.gcd(below)).longValue();
    }
}
