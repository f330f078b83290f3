/** Promise 7: back. */
public final class BackTest {
    public static void main(String[] args) {
        SteamBends x = new SteamBends();
        x.read(2, 10, 13);
        x.read(2, 20, 25);
        x.read(2, 40, 54);
        Check.due("spring", 0.25, () -> x.back(2, 0));
        Check.due("step", 0.25, () -> x.back(2, 1));
        Check.due("residue", 16.25, () -> x.back(2, 2));
        x.fit(2, 4);
        Check.due("spring fitted", 0.3125, () -> x.back(2, 0));
        Check.due("step fitted", 0.0625, () -> x.back(2, 1));
        Check.due("residue fitted", 3.828125, () -> x.back(2, 2));
        // Readings whose squares lose bits when they are added in another order.
        x.read(0, 1, 100000);
        x.read(0, 3, 3.8);
        x.read(0, 7, 9.1);
        x.read(0, 10000, 10000);
        double first = 100000 - 1 * (1 + 0.25);
        double second = 3.8 - 3 * (1 + 0.25);
        double third = 9.1 - 7 * (1 + 0.25);
        double fourth = 10000 - 10000 * (1 + 0.25);
        Check.due("summed from the first on",
                0 + first * first + second * second + third * third + fourth * fourth, () -> x.back(0, 2));
        for (int kind : Check.NO_KINDS) {
            Check.dueThrow("back of kind " + kind, Check.INDEX, () -> x.back(kind, 0));
        }
        for (int what : new int[] {-1, 3, 4, Integer.MIN_VALUE, Integer.MAX_VALUE}) {
            Check.dueThrow("what " + what, Check.INDEX, () -> x.back(0, what));
        }
        Check.end();
    }
}
