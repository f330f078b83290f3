/** Promise 4: strips. */
public final class StripsTest {
    public static void main(String[] args) {
        SteamBends x = new SteamBends();
        Check.due("no rows", SteamBends.NONE, () -> x.strips(0, 8, 100));
        x.table(0, 2, 30);
        x.table(0, 4, 70);
        x.table(0, 10, 400);
        Check.due("whole", 1, () -> x.strips(0, 10, 400));
        Check.due("just not whole", 2, () -> x.strips(0, 10, Math.nextDown(400.0)));
        Check.due("two", 2, () -> x.strips(0, 8, 70));
        Check.due("three", 3, () -> x.strips(0, 8, 69));
        Check.due("to the thinnest row", 4, () -> x.strips(0, 8, 30));
        Check.due("none is thin enough", SteamBends.NONE, () -> x.strips(0, 8, 29));
        Check.due("thinner than all rows", SteamBends.NONE, () -> x.strips(0, 1, 10000));
        Check.due("100 strips", 100, () -> x.strips(0, 200, 30));
        Check.due("101 would be needed", SteamBends.NONE, () -> x.strips(0, 202, 30));
        Check.due("too thick", SteamBends.NONE, () -> x.strips(0, 10000, 10000));
        Check.due("of another kind", SteamBends.NONE, () -> x.strips(1, 8, 70));

        // A radius that falls as the wood gets thicker: the least count is not the thinnest strip's.
        x.table(2, 1, 500);
        x.table(2, 10, 5);
        Check.due("thicker bends better", 2, () -> x.strips(2, 20, 5));
        Check.due("only thicker ones bend", SteamBends.NONE, () -> x.strips(2, 9, 5));

        x.table(3, 0.125, 0.125);
        x.table(3, 1000, 0.125);
        Check.due("most and least", 10, () -> x.strips(3, 10000, 0.125));
        Check.due("least and least", 1, () -> x.strips(3, 0.125, 0.125));

        for (int kind : Check.NO_KINDS) {
            Check.dueThrow("strips of kind " + kind, Check.INDEX, () -> x.strips(kind, 8, 8));
            Check.dueThrow("the kind comes first", Check.INDEX, () -> x.strips(kind, 0, 0));
        }
        for (double bad : Check.NO_NUMBERS) {
            Check.dueThrow("thick " + bad, Check.ARGUMENT, () -> x.strips(0, bad, 70));
            Check.dueThrow("radius " + bad, Check.ARGUMENT, () -> x.strips(0, 8, bad));
        }
        Check.dueThrow("thick below", Check.ARGUMENT, () -> x.strips(0, Math.nextDown(0.125), 70));
        Check.dueThrow("thick above", Check.ARGUMENT, () -> x.strips(0, Math.nextUp(10000.0), 70));
        Check.dueThrow("radius below", Check.ARGUMENT, () -> x.strips(0, 8, Math.nextDown(0.125)));
        Check.dueThrow("radius above", Check.ARGUMENT, () -> x.strips(0, 8, Math.nextUp(10000.0)));
        Check.end();
    }
}
