/** Promise 4: each edge that is told of strips, from both sides. */
public final class StripsEdgesTest {
    public static void main(String[] args) {
        thickRange();
        radiusRange();
        oneToHundred();
        theLeast();
        radiusIsThere();
        notAboveTheRadius();
        none();
        Check.end();
    }

    // "thick ... is not 0.125 .. 10000"
    private static void thickRange() {
        Edges.taken("thick without rows", 0.125, 10000, Twins.WITH_ROOM, (x, thick) -> x.strips(3, thick, 70),
                thick -> -1);
        // Rows without a gap from 0.125 to 1000 make of every thickness as few strips as 1000 asks for.
        Edges.taken("thick", 0.125, 10000, Twins.WITHOUT_ALL, (x, thick) -> overAll(x).strips(3, thick, 70),
                thick -> Math.ceil(thick / 1000));
        Edges.refused("thick", 0.125, 10000, Twins.ANY, (x, thick) -> x.strips(0, thick, 70));
        Twins.refused("thick 0", Check.ARGUMENT, Twins.ANY, x -> x.strips(0, 0, 70));
        Twins.refused("thick -0", Check.ARGUMENT, Twins.ANY, x -> x.strips(0, -0.0, 70));
    }

    // "or radius is not 0.125 .. 10000"
    private static void radiusRange() {
        Edges.taken("radius", 0.125, 10000, Twins.WITHOUT_ALL, (x, radius) -> overAll(x).strips(3, 8, radius),
                radius -> 1);
        Edges.refused("radius", 0.125, 10000, Twins.ANY, (x, radius) -> x.strips(0, 8, radius));
        Edges.refused("radius without rows", 0.125, 10000, Twins.WITH_ROOM, (x, radius) -> x.strips(3, 8, radius));
        Twins.refused("radius 0", Check.ARGUMENT, Twins.ANY, x -> x.strips(0, 8, 0));
        Twins.refused("radius -0", Check.ARGUMENT, Twins.ANY, x -> x.strips(0, 8, -0.0));
    }

    // "n of 1 .. 100": with the one row of 2 thick, n strips fit 2 * n alone.
    private static void oneToHundred() {
        SteamBends x = new SteamBends();
        x.table(0, 2, 30);
        for (int n : new int[] {1, 2, 3, 50, 99, 100}) {
            Check.due(n + " strips", n, () -> x.strips(0, 2 * n, 30));
            Check.due("a bit thicker than " + n, -1, () -> x.strips(0, Math.nextUp(2.0 * n), 30));
            Check.due("a bit thinner than " + n, -1, () -> x.strips(0, Math.nextDown(2.0 * n), 30));
        }
        for (int n : new int[] {101, 102, 200, 1000, 5000}) {
            Check.due(n + " strips would be needed", -1, () -> x.strips(0, 2 * n, 30));
        }
        Check.due("half a strip would be needed", -1, () -> x.strips(0, 1, 30));
        SteamBends y = new SteamBends();
        y.table(1, 1, 10);
        y.table(1, 1.5, 20);
        Check.due("100 strips of 1.5", 100, () -> y.strips(1, 150, 20));
        Check.due("101 strips of 1.5", -1, () -> y.strips(1, 151.5, 20));
        Check.due("a bit more than 100 strips of 1.5", -1, () -> y.strips(1, 150.125, 20));
    }

    // "the least n": of many that are fine, and with finer ones that are not.
    private static void theLeast() {
        SteamBends x = new SteamBends();
        x.table(2, 1, 50);
        x.table(2, 10, 50);
        Check.due("1 of 1 .. 10", 1, () -> x.strips(2, 10, 50));
        Check.due("just not 1", 2, () -> x.strips(2, Math.nextUp(10.0), 50));
        Check.due("2 of 2 .. 20", 2, () -> x.strips(2, 20, 50));
        Check.due("just not 2", 3, () -> x.strips(2, Math.nextUp(20.0), 50));
        Check.due("1 of 1", 1, () -> x.strips(2, 1, 50));
        Check.due("too thin for 1", -1, () -> x.strips(2, Math.nextDown(1.0), 50));
        Check.due("100 of 100 ..", 100, () -> x.strips(2, 1000, 50));
        Check.due("just not 100", -1, () -> x.strips(2, Math.nextUp(1000.0), 50));
    }

    // "the RADIUS of thick / n is there": at the first and the last row, not outside.
    private static void radiusIsThere() {
        SteamBends x = new SteamBends();
        x.table(0, 3, 90);
        x.table(0, 5, 70);
        Check.due("at the last row", 1, () -> x.strips(0, 5, 70));
        Check.due("above the last row", -1, () -> x.strips(0, Math.nextUp(5.0), 10000));
        Check.due("twice the first row", 2, () -> x.strips(0, 6, 10000));
        Check.due("below twice the first row", -1, () -> x.strips(0, Math.nextDown(6.0), 10000));
        Check.due("at the first row", 1, () -> x.strips(0, 3, 90));
        Check.due("below the first row", -1, () -> x.strips(0, Math.nextDown(3.0), 10000));
    }

    // "and not above the radius"
    private static void notAboveTheRadius() {
        SteamBends x = new SteamBends();
        x.table(1, 2, 30);
        x.table(1, 4, 70);
        x.table(1, 8, 400);
        Check.due("as the radius", 1, () -> x.strips(1, 8, 400));
        Check.due("a radius just above", 1, () -> x.strips(1, 8, Math.nextUp(400.0)));
        Check.due("a radius just below", 2, () -> x.strips(1, 8, Math.nextDown(400.0)));
        Check.due("as the radius of 2 strips", 2, () -> x.strips(1, 8, 70));
        Check.due("just below that of 2", 3, () -> x.strips(1, 8, Math.nextDown(70.0)));
        Check.due("as the radius of 4", 4, () -> x.strips(1, 8, 30));
        Check.due("just below that of 4", -1, () -> x.strips(1, 8, Math.nextDown(30.0)));
        Check.due("a radius between rows", 1, () -> x.strips(1, 3, 50));
        Check.due("just below one between rows", -1, () -> x.strips(1, 3, Math.nextDown(50.0)));
    }

    // "NONE if there are none": an answer, not an exception, and nothing is changed.
    private static void none() {
        Twins.onlyAnswers("no rows", SteamBends.NONE, Twins.WITH_ROOM, x -> x.strips(3, 8, 100));
        Twins.onlyAnswers("too thin", SteamBends.NONE, Twins.ANY, x -> x.strips(0, 0.5, 10000));
        Twins.onlyAnswers("too small a radius", SteamBends.NONE, Twins.ANY, x -> x.strips(0, 8, 0.125));
        Twins.onlyAnswers("some", 4, new Twins.Past[] {Twins.Past.USED}, x -> x.strips(0, 8, 30));
        Twins.onlyAnswers("some of full rows", 8, Twins.WITH_ALL, x -> x.strips(0, 8, 10));
    }

    private static SteamBends overAll(SteamBends x) {
        x.table(3, 0.125, 0.125);
        x.table(3, 1000, 0.125);
        return x;
    }
}
