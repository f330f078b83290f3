/** Promise 7: each edge that is told of back, from both sides. */
public final class BackEdgesTest {
    public static void main(String[] args) {
        whatRange();
        firstAndLastReading();
        onlyAsked();
        Check.end();
    }

    // "SPRING (what = 0), STEP (1), RESIDUE (2)", "IndexOutOfBoundsException: also of what"
    private static void whatRange() {
        for (int i = 0; i < 4; i++) {
            int kind = i;
            Edges.refusedWhole("what", 0, 2, Check.INDEX, Twins.ANY, (x, what) -> x.back(kind, what));
            Edges.takenWhole("what", 0, 2, Twins.WITHOUT_ALL, (x, what) -> x.back(kind, what), what -> what == 2 ? 0 : 0.25);
        }
        for (int what : new int[] {-1, 0, 2, 3, Integer.MIN_VALUE, Integer.MAX_VALUE}) {
            Twins.refused("no kind, what " + what, Check.INDEX, Twins.ANY, x -> x.back(-1, what));
            Twins.refused("no kind, what " + what, Check.INDEX, Twins.ANY, x -> x.back(4, what));
        }
        SteamBends x = new SteamBends();
        x.read(1, 8, 12);
        x.read(1, 4, 6.5);
        x.fit(1, 3);
        Check.due("spring", 0.5, () -> x.back(1, 0));
        Check.due("step", 0.0625, () -> x.back(1, 1));
        Check.due("residue", 0.25, () -> x.back(1, 2));
    }

    // "the sum of e * e over its readings": of none, of one, of all 20, the last one too.
    private static void firstAndLastReading() {
        SteamBends x = new SteamBends();
        Check.due("none", 0, () -> x.back(0, 2));
        double sum = 0;
        for (int n = 1; n <= 20; n++) {
            double kept = 5 + n / 7.0;
            x.read(0, 4, kept);
            double e = kept - 4 * 1.25;
            sum = sum + e * e;
            double due = sum;
            Check.due("residue of " + n, due, () -> x.back(0, 2));
        }
        SteamBends y = new SteamBends();
        y.read(3, 8, 8);
        Check.due("kept less than the spring lets", 4, () -> y.back(3, 2));
        SteamBends z = new SteamBends();
        z.read(3, 8, 10);
        Check.due("kept just as the spring lets", 0, () -> z.back(3, 2));
        SteamBends most = new SteamBends();
        most.read(2, 0.125, 100000);
        double e = 100000 - 0.125 * 1.25;
        Check.due("the largest residue", e * e, () -> most.back(2, 2));
    }

    private static void onlyAsked() {
        for (int i = 0; i < 4; i++) {
            int kind = i;
            for (int j = 0; j < 3; j++) {
                int what = j;
                for (Twins.Past past : Twins.ANY) {
                    double due = past.begin().back(kind, what);
                    Twins.onlyAnswers("back", due, new Twins.Past[] {past}, x -> x.back(kind, what));
                }
            }
        }
    }
}
