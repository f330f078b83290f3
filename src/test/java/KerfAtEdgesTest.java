/** Promise 14: each edge that is told of kerfAt, from both sides. */
public final class KerfAtEdgesTest {
    public static void main(String[] args) {
        thereWasNone();
        kRange();
        lengthRange();
        latestAlone();
        Check.end();
    }

    // "IllegalStateException: there was none (first)"
    private static void thereWasNone() {
        for (int k : new int[] {-1, 0, 1, Integer.MIN_VALUE, Integer.MAX_VALUE}) {
            for (double length : new double[] {-1, 0, 100, 10001, Double.NaN}) {
                Twins.refused("none, k " + k, Check.STATE, Twins.WITHOUT_ALL, x -> x.kerfAt(k, length));
            }
        }
        SteamBends x = new SteamBends();
        Check.dueThrow("before kerfs()", Check.STATE, () -> x.kerfAt(0, 100));
        x.kerfs(1, 1, 0.875, 100);
        Check.due("behind it", 50, () -> x.kerfAt(0, 100));
    }

    // "there is no such kerf": k-th of 0 .. count - 1
    private static void kRange() {
        double closes = 0.125 / (2.0 - 1) * 57.29577951308232;
        for (int n : new int[] {1, 2, 3, 14, 50}) {
            SteamBends x = new SteamBends();
            Check.due("count", n, () -> x.kerfs(n * closes, 2, 1, 0.125));
            Check.due("first of " + n, 77.7 / (2 * n), () -> x.kerfAt(0, 77.7));
            for (int i = 0; i < n; i++) {
                int k = i;
                Check.due(k + " of " + n, 77.7 * (2 * k + 1) / (2 * n), () -> x.kerfAt(k, 77.7));
            }
            Check.dueThrow("before the first of " + n, Check.INDEX, () -> x.kerfAt(-1, 77.7));
            Check.dueThrow("behind the last of " + n, Check.INDEX, () -> x.kerfAt(n, 77.7));
        }
        Edges.refusedWhole("k of 14", 0, 13, Check.INDEX, new Twins.Past[] {Twins.Past.USED}, (x, k) -> x.kerfAt(k, 100));
        Edges.refusedWhole("k of 59", 0, 58, Check.INDEX, Twins.WITH_ALL, (x, k) -> x.kerfAt(k, 100));
        SteamBends most = new SteamBends();
        most.kerfs(360, 1000, 0.125, 0.125);
        Edges.takenWhole("k of most", 0, 50259, Twins.WITHOUT_ALL,
                (x, k) -> x.kerfs(360, 1000, 0.125, 0.125) / 50260 * x.kerfAt(k, 10000),
                k -> 10000.0 * (2 * k + 1) / 100520);
        // Doubled in 32 bits, these would be kerfs that there are.
        for (int k : new int[] {50260, 1 << 16, 1 << 30, 1 << 31, (1 << 31) + 7, Integer.MAX_VALUE, -1, -50260}) {
            Check.dueThrow("k " + k + " of most", Check.INDEX, () -> most.kerfAt(k, 10000));
        }
    }

    // "length is not 0 .. 10000"
    private static void lengthRange() {
        Edges.taken("length, first", 0, 10000, new Twins.Past[] {Twins.Past.USED},
                (x, length) -> x.kerfAt(0, length), length -> length / 28);
        Edges.taken("length, last", 0, 10000, new Twins.Past[] {Twins.Past.USED},
                (x, length) -> x.kerfAt(13, length), length -> length * 27 / 28);
        Edges.refused("length, first", 0, 10000, Twins.WITH_KERFS, (x, length) -> x.kerfAt(0, length));
        Edges.refused("length, last", 0, 10000, Twins.WITH_KERFS, (x, length) -> x.kerfAt(13, length));
        Twins.onlyAnswers("0", 0, Twins.WITH_KERFS, x -> x.kerfAt(5, 0));
        Twins.onlyAnswers("-0", 0, Twins.WITH_KERFS, x -> x.kerfAt(5, -0.0));
        for (double length : new double[] {-1, 10001, Double.NaN}) {
            Twins.refused("no kerf, and no length", Check.INDEX, Twins.WITH_KERFS, x -> x.kerfAt(-1, length));
            Twins.refused("no kerf, and no length", Check.INDEX, Twins.WITH_KERFS, x -> x.kerfAt(59, length));
        }
    }

    // "of the latest kerfs()": fewer than before, and more than before.
    private static void latestAlone() {
        SteamBends x = new SteamBends();
        x.kerfs(90, 20, 3, 2);
        Check.due("13 of 14", 96.42857142857143, () -> x.kerfAt(13, 100));
        x.kerfs(45, 19, 4, 3.2);
        Check.due("3 of 4", 87.5, () -> x.kerfAt(3, 100));
        Check.dueThrow("4 of 4", Check.INDEX, () -> x.kerfAt(4, 100));
        Check.dueThrow("13 of 4", Check.INDEX, () -> x.kerfAt(13, 100));
        x.kerfs(180, 25, 2.5, 1.2);
        Check.due("58 of 59", 100 * 117.0 / 118, () -> x.kerfAt(58, 100));
        Check.dueThrow("59 of 59", Check.INDEX, () -> x.kerfAt(59, 100));
    }
}
