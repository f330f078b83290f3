/** Promise 8: each edge that is told of form, from both sides. */
public final class FormEdgesTest {
    private static final long PARTS = 1L << 40;

    public static void main(String[] args) {
        wantedRange();
        middleBelow();
        fortyTimes();
        noSpring();
        Check.end();
    }

    // "wanted is not 0.125 .. 100000"
    private static void wantedRange() {
        for (int i = 0; i < 4; i++) {
            int kind = i;
            Edges.taken("wanted", 0.125, 100000, Twins.WITHOUT_ALL, (x, wanted) -> x.form(kind, wanted),
                    wanted -> halved(wanted, 0.25));
            Edges.refused("wanted", 0.125, 100000, Twins.ANY, (x, wanted) -> x.form(kind, wanted));
            Twins.refused("wanted 0", Check.ARGUMENT, Twins.ANY, x -> x.form(kind, 0));
            Twins.refused("wanted -0", Check.ARGUMENT, Twins.ANY, x -> x.form(kind, -0.0));
        }
        Twins.onlyAnswers("the least", 0.10000000000002274, Twins.WITHOUT_ALL, x -> x.form(0, 0.125));
        Twins.onlyAnswers("the most", 80000.00000001819, Twins.WITHOUT_ALL, x -> x.form(0, 100000));
    }

    // "is low if m * (1 + s) is below w, else high": with a spring of 1 the first middle is just w.
    private static void middleBelow() {
        Check.due("just w", 4, () -> springOf(1).form(0, 8));
        Check.due("just w of another", 35.5, () -> springOf(1).form(0, 71));
        // Above and below 1, high is the least 2^-40th of 8 that is not too small.
        for (double spring : new double[] {0.5, 0.75, 1.25, 1.5, 2, 2.75}) {
            double due = 8.0 * leastPart(spring) / PARTS;
            Check.due("a spring of " + spring, due, () -> springOf(spring).form(0, 8));
        }
        Check.due("just w at the second middle", 2, () -> springOf(3).form(0, 8));
        Check.due("just w at the third middle", 1, () -> springOf(7).form(0, 8));
    }

    // "40 times": one time less or more would give another last bit.
    private static void fortyTimes() {
        double due = 8.0 * leastPart(0.25) / PARTS;
        Check.due("40", due, () -> new SteamBends().form(1, 8));
        Check.holds("not 39", due != 8.0 * (leastPart(0.25) / 2 + leastPart(0.25) % 2) * 2 / PARTS);
        SteamBends x = new SteamBends();
        double first = x.form(2, 77.7);
        Check.due("each call begins anew", first, () -> x.form(2, 77.7));
        Check.due("also behind another", halved(3.3, 0.25), () -> x.form(2, 3.3));
    }

    // A spring of 0: no middle is large enough, so that high stays w.
    private static void noSpring() {
        for (double wanted : new double[] {0.125, Math.nextUp(0.125), 1.0 / 3, 8, Math.nextDown(100000.0), 100000}) {
            SteamBends x = new SteamBends();
            x.read(0, 8, 8);
            x.fit(0, 1);
            Check.due("no spring", wanted, () -> x.form(0, wanted));
        }
    }

    /** An object whose kind 0 has that spring, a multiple of 0.25 above 0. */
    private static SteamBends springOf(double spring) {
        SteamBends x = new SteamBends();
        x.read(0, 8, 8 * (1 + spring));
        x.fit(0, (int) (spring * 4) - 1);
        Check.due("spring", spring, () -> x.back(0, 0));
        return x;
    }

    private static long leastPart(double spring) {
        // In quarters, so that all is whole.
        long quarters = 4 + (long) (spring * 4);
        return (PARTS * 4 + quarters - 1) / quarters;
    }

    private static double halved(double wanted, double spring) {
        double low = 0;
        double high = wanted;
        int times = 0;
        while (times < 40) {
            double middle = (low + high) / 2;
            if (middle * (1 + spring) >= wanted) {
                high = middle;
            } else {
                low = middle;
            }
            times++;
        }
        return high;
    }
}
