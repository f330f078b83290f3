/** Promise 5: each edge that is told of read, from both sides. */
public final class ReadEdgesTest {
    public static void main(String[] args) {
        bentRange();
        keptFromBentOn();
        keptAtMost();
        twentyReadings();
        refusedWhenFull();
        Check.end();
    }

    // "bent is not 0.125 .. 10000"
    private static void bentRange() {
        Edges.taken("bent", 0.125, 10000, Twins.WITHOUT_ALL, (x, bent) -> x.read(1, bent, 100000), bent -> 1);
        Edges.taken("bent is kept", 0.125, 10000, Twins.WITHOUT_ALL,
                (x, bent) -> x.read(1, bent, 100000) * x.back(1, 2), bent -> square(100000 - bent * 1.25));
        Edges.refused("bent", 0.125, 10000, Twins.ANY, (x, bent) -> x.read(0, bent, 100000));
        Edges.refused("bent, and kept as bent", 0.125, 10000, Twins.ANY, (x, bent) -> x.read(3, bent, bent));
        Twins.refused("bent 0", Check.ARGUMENT, Twins.ANY, x -> x.read(0, 0, 1));
        Twins.refused("bent -0", Check.ARGUMENT, Twins.ANY, x -> x.read(0, -0.0, 1));
        // Just below the least and just above the most, but each with a kept that is fine.
        Twins.refused("bent below", Check.ARGUMENT, Twins.ANY, x -> x.read(0, Math.nextDown(0.125), 0.125));
        Twins.refused("bent above", Check.ARGUMENT, Twins.ANY, x -> x.read(0, Math.nextUp(10000.0), 10001));
    }

    // "kept not bent ..": at bent it is fine, just below it is not.
    private static void keptFromBentOn() {
        for (double bent : new double[] {0.125, 1, 7.3, 9999.7, 10000}) {
            Edges.taken("kept of " + bent, bent, 100000, Twins.WITHOUT_ALL, (x, kept) -> x.read(2, bent, kept),
                    kept -> 1);
            Edges.taken("kept is kept, of " + bent, bent, 100000, Twins.WITHOUT_ALL,
                    (x, kept) -> x.read(2, bent, kept) * x.back(2, 2), kept -> square(kept - bent * 1.25));
            Twins.refused("kept just below " + bent, Check.ARGUMENT, Twins.ANY,
                    x -> x.read(2, bent, Math.nextDown(bent)));
            Twins.refused("kept 0", Check.ARGUMENT, Twins.ANY, x -> x.read(2, bent, 0));
            Twins.refused("kept below 0", Check.ARGUMENT, Twins.ANY, x -> x.read(2, bent, -bent));
        }
    }

    // "kept not ... 100000"
    private static void keptAtMost() {
        Edges.refused("kept", 5, 100000, Twins.ANY, (x, kept) -> x.read(0, 5, kept));
        Edges.refused("kept of the most", 10000, 100000, Twins.ANY, (x, kept) -> x.read(3, 10000, kept));
        Twins.refused("kept just above", Check.ARGUMENT, Twins.ANY, x -> x.read(1, 0.125, Math.nextUp(100000.0)));
    }

    // "READINGS of a kind, 20 at most": "there are 20"
    private static void twentyReadings() {
        for (int i = 0; i < 4; i++) {
            int kind = i;
            SteamBends x = new SteamBends();
            for (int n = 1; n <= 20; n++) {
                int reading = n;
                Check.due("reading " + reading, reading, () -> x.read(kind, 4, 6));
                Check.due("counts with the others", reading, () -> x.back(kind, 2));
            }
            Check.dueThrow("reading 21", Check.STATE, () -> x.read(kind, 4, 6));
            Check.dueThrow("reading 21 again", Check.STATE, () -> x.read(kind, 10000, 100000));
            Check.due("20 are there", 20, () -> x.back(kind, 2));
            Check.due("the next kind has room", 1, () -> x.read((kind + 1) % 4, 4, 6));
            x.fit(kind, 1);
            Check.due("all 20 are fitted", 0, () -> x.back(kind, 2));
        }
    }

    private static void refusedWhenFull() {
        for (int i = 0; i < 4; i++) {
            int kind = i;
            Twins.refused("reading 21", Check.STATE, Twins.WITH_ALL, x -> x.read(kind, 4, 6));
            Twins.refused("reading 21, least", Check.STATE, Twins.WITH_ALL, x -> x.read(kind, 0.125, 0.125));
            Twins.refused("reading 21, most", Check.STATE, Twins.WITH_ALL, x -> x.read(kind, 10000, 100000));
            Twins.refused("full, but kept is below", Check.ARGUMENT, Twins.WITH_ALL,
                    x -> x.read(kind, 4, Math.nextDown(4.0)));
        }
    }

    private static double square(double e) {
        return e * e;
    }
}
