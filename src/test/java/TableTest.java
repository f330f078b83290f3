/** Promise 2: table. */
public final class TableTest {
    public static void main(String[] args) {
        wrongNumbers();
        edgesAndOrderOfRows();
        fullKind();
        Check.end();
    }

    private static void wrongNumbers() {
        SteamBends x = new SteamBends();
        for (int kind : Check.NO_KINDS) {
            Check.dueThrow("table of kind " + kind, Check.INDEX, () -> x.table(kind, 10, 10));
            Check.dueThrow("the kind comes first", Check.INDEX, () -> x.table(kind, -1, Double.NaN));
        }
        for (double bad : Check.NO_NUMBERS) {
            Check.dueThrow("thick " + bad, Check.ARGUMENT, () -> x.table(0, bad, 10));
            Check.dueThrow("radius " + bad, Check.ARGUMENT, () -> x.table(0, 10, bad));
        }
        Check.dueThrow("thick 0", Check.ARGUMENT, () -> x.table(0, 0, 10));
        Check.dueThrow("thick below", Check.ARGUMENT, () -> x.table(0, Math.nextDown(0.125), 10));
        Check.dueThrow("thick above", Check.ARGUMENT, () -> x.table(0, Math.nextUp(1000.0), 10));
        Check.dueThrow("radius below", Check.ARGUMENT, () -> x.table(0, 10, Math.nextDown(0.125)));
        Check.dueThrow("radius above", Check.ARGUMENT, () -> x.table(0, 10, Math.nextUp(10000.0)));
        Check.due("none of these is a row", 1, () -> x.table(0, 10, 10));
    }

    private static void edgesAndOrderOfRows() {
        SteamBends x = new SteamBends();
        Check.due("least", 1, () -> x.table(3, 0.125, 0.125));
        Check.dueThrow("as thick", Check.ARGUMENT, () -> x.table(3, 0.125, 5));
        Check.due("next to it", 2, () -> x.table(3, Math.nextUp(0.125), 10000));
        Check.due("most", 3, () -> x.table(3, 1000, 10000));
        Check.dueThrow("thinner", Check.ARGUMENT, () -> x.table(3, 999, 5));
        Check.due("least stays", 0.125, () -> x.radius(3, 0.125));
        Check.due("most stays", 10000, () -> x.radius(3, 1000));
        Check.due("kinds do not share rows", 1, () -> x.table(2, 5, 5));
    }

    private static void fullKind() {
        SteamBends x = new SteamBends();
        for (int i = 1; i <= 12; i++) {
            int n = i;
            Check.due("row " + n, n, () -> x.table(1, n, 10 * n));
        }
        Check.dueThrow("13th row", Check.STATE, () -> x.table(1, 13, 5));
        Check.dueThrow("arguments come before room", Check.ARGUMENT, () -> x.table(1, 12, 5));
        Check.dueThrow("arguments come before room", Check.ARGUMENT, () -> x.table(1, 13, 0));
        Check.due("the last row stays", 120, () -> x.radius(1, 12));
        Check.dueThrow("nothing behind it", Check.STATE, () -> x.radius(1, 13));
    }
}
