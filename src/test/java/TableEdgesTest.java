/** Promise 2: each edge that is told of table, from both sides. */
public final class TableEdgesTest {
    public static void main(String[] args) {
        thickRange();
        radiusRange();
        thickAboveTheRowBefore();
        twelveRows();
        refusedWhenFull();
        Check.end();
    }

    // "thick is not 0.125 .. 1000"
    private static void thickRange() {
        Edges.taken("thick", 0.125, 1000, Twins.WITHOUT_ALL, (x, thick) -> x.table(2, thick, 7), thick -> 1);
        Edges.taken("thick is kept", 0.125, 1000, Twins.WITHOUT_ALL,
                (x, thick) -> x.table(2, thick, 7) + x.radius(2, thick), thick -> 8);
        Edges.refused("thick", 0.125, 1000, Twins.ANY, (x, thick) -> x.table(3, thick, 7));
        Edges.refused("thick", 0.125, 1000, Twins.ANY, (x, thick) -> x.table(0, thick, 7));
        Twins.refused("thick 0", Check.ARGUMENT, Twins.ANY, x -> x.table(3, 0, 7));
        Twins.refused("thick -0", Check.ARGUMENT, Twins.ANY, x -> x.table(3, -0.0, 7));
    }

    // "radius not 0.125 .. 10000"
    private static void radiusRange() {
        Edges.taken("radius", 0.125, 10000, Twins.WITHOUT_ALL, (x, radius) -> x.table(1, 5, radius), radius -> 1);
        Edges.taken("radius is kept", 0.125, 10000, Twins.WITHOUT_ALL,
                (x, radius) -> x.table(1, 5, radius) * x.radius(1, 5), radius -> radius);
        Edges.refused("radius", 0.125, 10000, Twins.ANY, (x, radius) -> x.table(3, 5, radius));
        Edges.refused("radius", 0.125, 10000, Twins.ANY, (x, radius) -> x.table(0, 100, radius));
        Twins.refused("radius 0", Check.ARGUMENT, Twins.ANY, x -> x.table(3, 100, 0));
        Twins.refused("radius -0", Check.ARGUMENT, Twins.ANY, x -> x.table(3, 100, -0.0));
    }

    // "or thick not above the row's before"
    private static void thickAboveTheRowBefore() {
        for (double before : new double[] {2, 7.3, 999}) {
            SteamBends x = new SteamBends();
            SteamBends twin = new SteamBends();
            x.table(1, before, 30);
            twin.table(1, before, 30);
            Check.dueThrow("below the row before", Check.ARGUMENT, () -> x.table(1, Math.nextDown(before), 30));
            Check.dueThrow("far below it", Check.ARGUMENT, () -> x.table(1, 0.125, 30));
            Check.dueThrow("the same as it", Check.ARGUMENT, () -> x.table(1, before, 30));
            Check.dueThrow("the same with another radius", Check.ARGUMENT, () -> x.table(1, before, 31));
            Twins.same("refused behind " + before, x, twin);
            SteamBends y = new SteamBends();
            y.table(1, before, 30);
            double next = Math.nextUp(before);
            Check.due("just above it", 2, () -> y.table(1, next, 31));
            Check.due("the row before stays", 30, () -> y.radius(1, before));
            Check.due("the next row", 31, () -> y.radius(1, next));
            Check.dueThrow("the latest row counts, not the first", Check.ARGUMENT, () -> y.table(1, next, 32));
            Check.due("above the latest", 3, () -> y.table(1, Math.nextUp(next), 32));
            Check.due("of another kind", 1, () -> y.table(2, Math.nextDown(before), 33));
        }
        // The row before's thickness, not a refused one's, is what counts.
        SteamBends x = new SteamBends();
        x.table(0, 2, 30);
        Check.dueThrow("refused by its radius", Check.ARGUMENT, () -> x.table(0, 50, 0));
        Check.dueThrow("refused by its thickness", Check.ARGUMENT, () -> x.table(0, 1, 30));
        Check.dueThrow("not above 2", Check.ARGUMENT, () -> x.table(0, 2, 30));
        Check.due("above 2", 2, () -> x.table(0, Math.nextUp(2.0), 30));
    }

    // "ROWS, 12 at most each": "there are 12"
    private static void twelveRows() {
        for (int i = 0; i < 4; i++) {
            int kind = i;
            SteamBends x = new SteamBends();
            for (int n = 1; n <= 12; n++) {
                int row = n;
                Check.due("row " + row, row, () -> x.table(kind, row * 2, row * 5));
                Check.due("its radius", row * 5, () -> x.radius(kind, row * 2));
                Check.dueThrow("nothing above it", Check.STATE, () -> x.radius(kind, Math.nextUp(row * 2.0)));
            }
            Check.dueThrow("row 13", Check.STATE, () -> x.table(kind, 26, 65));
            Check.dueThrow("row 13 again", Check.STATE, () -> x.table(kind, 1000, 65));
            for (int n = 1; n <= 12; n++) {
                int row = n;
                Check.due("row " + row + " stays", row * 5, () -> x.radius(kind, row * 2));
            }
            Check.dueThrow("there is no row 13", Check.STATE, () -> x.radius(kind, Math.nextUp(24.0)));
            Check.dueThrow("nor at its thickness", Check.STATE, () -> x.radius(kind, 26));
            Check.due("the next kind has room", 1, () -> x.table((kind + 1) % 4, 26, 65));
        }
    }

    private static void refusedWhenFull() {
        for (int i = 0; i < 4; i++) {
            int kind = i;
            Twins.refused("row 13", Check.STATE, Twins.WITH_ALL, x -> x.table(kind, 13, 9));
            Twins.refused("row 13, thickest", Check.STATE, Twins.WITH_ALL, x -> x.table(kind, 1000, 10000));
            Twins.refused("row 13 just above", Check.STATE, Twins.WITH_ALL,
                    x -> x.table(kind, Math.nextUp(12 + kind / 8.0), 0.125));
            Twins.refused("full, but not above", Check.ARGUMENT, Twins.WITH_ALL,
                    x -> x.table(kind, 12 + kind / 8.0, 9));
        }
    }
}
