/** Promise 3: each edge that is told of radius, from both sides. */
public final class RadiusEdgesTest {
    public static void main(String[] args) {
        thickRange();
        oneRow();
        atRows();
        betweenRows();
        atFarRows();
        atFullTable();
        Check.end();
    }

    // "thick is not 0 .. 1000"
    private static void thickRange() {
        Edges.refused("thick", 0, 1000, Twins.ANY, (x, thick) -> x.radius(0, thick));
        Edges.refused("thick of a kind without rows", 0, 1000, Twins.WITH_ROOM, (x, thick) -> x.radius(3, thick));
        for (double thick : new double[] {0, -0.0, Double.MIN_VALUE, Math.nextDown(1000.0), 1000}) {
            Twins.refused("no row for " + thick, Check.STATE, Twins.ANY, x -> x.radius(0, thick));
        }
        SteamBends x = new SteamBends();
        x.table(0, 0.125, 5);
        x.table(0, 1000, 5);
        Check.due("1000 is taken", 5, () -> x.radius(0, 1000));
        Check.due("just below it too", 5, () -> x.radius(0, Math.nextDown(1000.0)));
        Check.dueThrow("not what is above", Check.ARGUMENT, () -> x.radius(0, Math.nextUp(1000.0)));
    }

    // "none outside": with one row there is nothing but that row.
    private static void oneRow() {
        for (double row : new double[] {0.125, 3, 999.9, 1000}) {
            SteamBends x = new SteamBends();
            SteamBends twin = new SteamBends();
            x.table(2, row, 45.5);
            twin.table(2, row, 45.5);
            Check.due("at the row", 45.5, () -> x.radius(2, row));
            Check.dueThrow("just below the row", Check.STATE, () -> x.radius(2, Math.nextDown(row)));
            Check.dueThrow("just above the row", row < 1000 ? Check.STATE : Check.ARGUMENT,
                    () -> x.radius(2, Math.nextUp(row)));
            Check.dueThrow("of another kind", Check.STATE, () -> x.radius(1, row));
            Twins.same("asked outside of one row", x, twin);
        }
    }

    // "RADIUS of a thickness at a row is the row's": lines through rows that miss it by a bit
    // are found beside each row.
    private static void atRows() {
        double[][] rows = {{0.7, 55.7}, {3.1, 7.3}, {4.9, 131.1}, {5.3, 0.125}, {9.7, 9999.7}};
        SteamBends x = new SteamBends();
        for (double[] row : rows) {
            x.table(3, row[0], row[1]);
        }
        for (int i = 0; i < rows.length; i++) {
            double[] row = rows[i];
            Check.due("at row " + i, row[1], () -> x.radius(3, row[0]));
            double below = Math.nextDown(row[0]);
            double above = Math.nextUp(row[0]);
            if (i > 0) {
                Check.due("below row " + i, between(rows[i - 1], row, below), () -> x.radius(3, below));
            } else {
                Check.dueThrow("below all", Check.STATE, () -> x.radius(3, below));
            }
            if (i + 1 < rows.length) {
                Check.due("above row " + i, between(row, rows[i + 1], above), () -> x.radius(3, above));
            } else {
                Check.dueThrow("above all", Check.STATE, () -> x.radius(3, above));
            }
        }
    }

    // "between two rows next to one another": not between others, even if these are next doubles.
    private static void betweenRows() {
        SteamBends x = new SteamBends();
        double t0 = 5;
        double t1 = Math.nextUp(Math.nextUp(t0));
        x.table(0, 1, 10);
        x.table(0, t0, 20);
        x.table(0, t1, 40);
        x.table(0, 9, 0.5);
        Check.due("in the midst of a narrow gap", 30, () -> x.radius(0, Math.nextUp(t0)));
        Check.due("at its lower end", 20, () -> x.radius(0, t0));
        Check.due("at its upper end", 40, () -> x.radius(0, t1));
        Check.due("below the gap", 15, () -> x.radius(0, 3));
        double above = Math.nextUp(t1);
        Check.due("above the gap", 40 + (above - t1) * (0.5 - 40) / (9 - t1), () -> x.radius(0, above));
        Check.due("rising rows", 12.5, () -> x.radius(0, 2));
        Check.due("falling rows", 40 + (7 - t1) * (0.5 - 40) / (9 - t1), () -> x.radius(0, 7));
    }

    private static void atFarRows() {
        SteamBends x = new SteamBends();
        x.table(1, 0.125, 10000);
        x.table(1, 1000, 0.125);
        double[] first = {0.125, 10000};
        double[] last = {1000, 0.125};
        for (double thick : new double[] {Math.nextUp(0.125), 0.25, 500, 999.875, Math.nextDown(1000.0)}) {
            Check.due("far between, " + thick, between(first, last, thick), () -> x.radius(1, thick));
        }
        Check.dueThrow("below", Check.STATE, () -> x.radius(1, Math.nextDown(0.125)));
        Check.dueThrow("0", Check.STATE, () -> x.radius(1, 0));
    }

    private static void atFullTable() {
        for (int i = 0; i < 4; i++) {
            int kind = i;
            double shift = kind / 8.0;
            Twins.onlyAnswers("the first of 12", 10 + kind, Twins.WITH_ALL, x -> x.radius(kind, 1 + shift));
            Twins.onlyAnswers("the last of 12", 120 + kind, Twins.WITH_ALL, x -> x.radius(kind, 12 + shift));
            Twins.onlyAnswers("between the last two", 115 + kind, Twins.WITH_ALL, x -> x.radius(kind, 11.5 + shift));
            Twins.refused("below the first", Check.STATE, Twins.WITH_ALL,
                    x -> x.radius(kind, Math.nextDown(1 + shift)));
            Twins.refused("above the last", Check.STATE, Twins.WITH_ALL,
                    x -> x.radius(kind, Math.nextUp(12 + shift)));
        }
    }

    private static double between(double[] row0, double[] row1, double thick) {
        return row0[1] + (thick - row0[0]) * (row1[1] - row0[1]) / (row1[0] - row0[0]);
    }
}
