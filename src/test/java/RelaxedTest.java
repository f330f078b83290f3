/** Promise 17: relaxed. */
public final class RelaxedTest {
    public static void main(String[] args) {
        SteamBends x = new SteamBends();
        Check.due("0", 1, () -> x.relaxed(0, 0));
        Check.due("1", 1.0277777777777777, () -> x.relaxed(0, 1));
        Check.due("5", 1.0961538461538463, () -> x.relaxed(3, 5));
        Check.due("8", 1.125, () -> x.relaxed(1, 8));
        Check.due("10", 1.1388888888888888, () -> x.relaxed(0, 10));
        Check.due("9999", 1.2498001399020686, () -> x.relaxed(2, 9999));
        Check.due("10000", 1.2498001598721022, () -> x.relaxed(0, 10000));
        x.read(2, 10, 15);
        x.fit(2, 1);
        Check.due("a fitted spring", 1.1363636363636362, () -> x.relaxed(2, 3));
        Check.due("another kind's", 1.0681818181818181, () -> x.relaxed(1, 3));
        for (int kind : Check.NO_KINDS) {
            Check.dueThrow("relaxed of kind " + kind, Check.INDEX, () -> x.relaxed(kind, 1));
            Check.dueThrow("the kind comes first", Check.INDEX, () -> x.relaxed(kind, -1));
        }
        for (int days : new int[] {-1, -8, 10001, Integer.MIN_VALUE, Integer.MAX_VALUE}) {
            Check.dueThrow("days " + days, Check.ARGUMENT, () -> x.relaxed(0, days));
        }
        Check.end();
    }
}
