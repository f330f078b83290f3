/** Promise 3: radius. */
public final class RadiusTest {
    public static void main(String[] args) {
        SteamBends x = new SteamBends();
        Check.dueThrow("no rows", Check.STATE, () -> x.radius(0, 0));
        x.table(0, 0.7, 7.3);
        Check.due("one row", 7.3, () -> x.radius(0, 0.7));
        Check.dueThrow("above one row", Check.STATE, () -> x.radius(0, Math.nextUp(0.7)));
        Check.dueThrow("below one row", Check.STATE, () -> x.radius(0, Math.nextDown(0.7)));
        x.table(0, 3.1, 55.7);
        x.table(0, 8, 20);
        Check.due("first", 7.3, () -> x.radius(0, 0.7));
        Check.due("middle", 55.7, () -> x.radius(0, 3.1));
        Check.due("last", 20, () -> x.radius(0, 8));
        Check.due("between", 31.5, () -> x.radius(0, 1.9));
        Check.due("times before divided", 15.36666666666667, () -> x.radius(0, 1.1));
        Check.dueThrow("too thin", Check.STATE, () -> x.radius(0, 0.5));
        Check.dueThrow("too thick", Check.STATE, () -> x.radius(0, 8.125));
        Check.dueThrow("0 is a thickness", Check.STATE, () -> x.radius(0, 0));
        Check.dueThrow("1000 is a thickness", Check.STATE, () -> x.radius(0, 1000));

        // The line through these two rows does not meet the second one's radius to the last bit.
        x.table(1, 0.7, 55.7);
        x.table(1, 3.1, 7.3);
        Check.due("a row's own radius", 7.3, () -> x.radius(1, 3.1));

        x.table(2, 0.125, 10000);
        x.table(2, 1000, 0.125);
        Check.due("far ends, below", 10000, () -> x.radius(2, 0.125));
        Check.due("far ends, above", 0.125, () -> x.radius(2, 1000));
        Check.due("far ends, between", 10000 + (500 - 0.125) * (0.125 - 10000) / (1000 - 0.125),
                () -> x.radius(2, 500));

        for (int kind : Check.NO_KINDS) {
            Check.dueThrow("radius of kind " + kind, Check.INDEX, () -> x.radius(kind, 1));
            Check.dueThrow("the kind comes first", Check.INDEX, () -> x.radius(kind, -1));
        }
        for (double bad : Check.NO_NUMBERS) {
            Check.dueThrow("thick " + bad, Check.ARGUMENT, () -> x.radius(0, bad));
            Check.dueThrow("argument before state", Check.ARGUMENT, () -> x.radius(3, bad));
        }
        Check.dueThrow("thick above", Check.ARGUMENT, () -> x.radius(0, Math.nextUp(1000.0)));
        Check.dueThrow("thick below", Check.ARGUMENT, () -> x.radius(0, -Double.MIN_VALUE));
        Check.end();
    }
}
