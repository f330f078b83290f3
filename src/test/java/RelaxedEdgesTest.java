/** Promise 17: each edge that is told of relaxed, from both sides. */
public final class RelaxedEdgesTest {
    public static void main(String[] args) {
        daysRange();
        noDays();
        partsOfEight();
        kindsSpring();
        Check.end();
    }

    // "days are not 0 .. 10000"
    private static void daysRange() {
        for (int i = 0; i < 4; i++) {
            int kind = i;
            Edges.takenWhole("days", 0, 10000, Twins.WITHOUT_ALL, (x, days) -> x.relaxed(kind, days),
                    days -> 1 + 0.25 * (1 - 1 / (1 + days / 8.0)));
            Edges.refusedWhole("days", 0, 10000, Check.ARGUMENT, Twins.ANY, (x, days) -> x.relaxed(kind, days));
            Twins.refused("-8 days", Check.ARGUMENT, Twins.ANY, x -> x.relaxed(kind, -8));
        }
        Twins.onlyAnswers("10000 days", 1.2498001598721022, Twins.WITHOUT_ALL, x -> x.relaxed(3, 10000));
    }

    // Behind 0 days nothing has relaxed, whatever the spring.
    private static void noDays() {
        for (int i = 0; i < 4; i++) {
            int kind = i;
            Twins.onlyAnswers("0 days", 1, Twins.ANY, x -> x.relaxed(kind, 0));
        }
        SteamBends x = new SteamBends();
        x.read(0, 8, 8);
        x.fit(0, 1);
        for (int i : new int[] {0, 1, 8, 10000}) {
            int days = i;
            Check.due("no spring, " + days, 1, () -> x.relaxed(0, days));
        }
    }

    // "days / 8" in doubles: what is less than 8 days counts too.
    private static void partsOfEight() {
        SteamBends x = new SteamBends();
        for (int i = 0; i <= 17; i++) {
            int days = i;
            Check.due(days + " days", 1 + 0.25 * (1 - 1 / (1 + days * 0.125)), () -> x.relaxed(1, days));
        }
        for (int i = 0; i <= 10000; i++) {
            int days = i;
            double d = days;
            SteamBends y = new SteamBends();
            Check.due(days + " days", 1 + 0.25 * (1 - 1 / (1 + d / 8)), () -> y.relaxed(1, days));
        }
        Check.due("8 days: half of it", 1.125, () -> x.relaxed(1, 8));
        Check.due("24 days: three quarters", 1.1875, () -> x.relaxed(1, 24));
    }

    // "s being the kind's SPRING": that of now.
    private static void kindsSpring() {
        SteamBends x = new SteamBends();
        x.read(2, 8, 12);
        Check.due("before the fit", 1.125, () -> x.relaxed(2, 8));
        x.fit(2, 1);
        Check.due("behind it", 1.25, () -> x.relaxed(2, 8));
        Check.due("another's", 1.125, () -> x.relaxed(1, 8));
    }
}
