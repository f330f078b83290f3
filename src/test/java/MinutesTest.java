/** Promise 9: minutes. */
public final class MinutesTest {
    public static void main(String[] args) {
        SteamBends x = new SteamBends();
        Check.due("0", 0, () -> x.minutes(0));
        Check.due("25", 62.5, () -> x.minutes(25));
        Check.due("0.1", 0.1 * 2.5, () -> x.minutes(0.1));
        Check.due("50", 125, () -> x.minutes(50));
        Check.due("just above 50", Math.nextUp(50.0) * 2.5 + 20, () -> x.minutes(Math.nextUp(50.0)));
        Check.due("50.125", 145.3125, () -> x.minutes(50.125));
        Check.due("1000", 2520, () -> x.minutes(1000));
        for (double bad : Check.NO_NUMBERS) {
            Check.dueThrow("thick " + bad, Check.ARGUMENT, () -> x.minutes(bad));
        }
        Check.dueThrow("below", Check.ARGUMENT, () -> x.minutes(-Double.MIN_VALUE));
        Check.dueThrow("above", Check.ARGUMENT, () -> x.minutes(Math.nextUp(1000.0)));
        Check.end();
    }
}
