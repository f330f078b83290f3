/** Promise 5: read. */
public final class ReadTest {
    public static void main(String[] args) {
        SteamBends x = new SteamBends();
        for (int kind : Check.NO_KINDS) {
            Check.dueThrow("read of kind " + kind, Check.INDEX, () -> x.read(kind, 1, 2));
            Check.dueThrow("the kind comes first", Check.INDEX, () -> x.read(kind, 0, 0));
        }
        for (double bad : Check.NO_NUMBERS) {
            Check.dueThrow("bent " + bad, Check.ARGUMENT, () -> x.read(0, bad, 10));
            Check.dueThrow("kept " + bad, Check.ARGUMENT, () -> x.read(0, 10, bad));
        }
        Check.dueThrow("bent below", Check.ARGUMENT, () -> x.read(0, Math.nextDown(0.125), 1));
        Check.dueThrow("bent above", Check.ARGUMENT, () -> x.read(0, Math.nextUp(10000.0), 20000));
        Check.dueThrow("kept below bent", Check.ARGUMENT, () -> x.read(0, 5, Math.nextDown(5.0)));
        Check.dueThrow("kept above", Check.ARGUMENT, () -> x.read(0, 5, Math.nextUp(100000.0)));
        Check.due("nothing was read", 0, () -> x.back(0, 2));
        Check.due("least", 1, () -> x.read(0, 0.125, 0.125));
        Check.due("most", 2, () -> x.read(0, 10000, 100000));
        Check.due("kept as bent", 3, () -> x.read(0, 10000, 10000));
        Check.due("again the same", 4, () -> x.read(0, 10000, 10000));
        Check.due("of another kind", 1, () -> x.read(1, 10, 13));
        Check.due("a reading counts", 0.25, () -> x.back(1, 2));

        for (int i = 1; i <= 20; i++) {
            int n = i;
            Check.due("reading " + n, n, () -> x.read(2, 4, 6));
        }
        Check.due("all 20 count", 20, () -> x.back(2, 2));
        Check.dueThrow("the 21st", Check.STATE, () -> x.read(2, 4, 6));
        Check.dueThrow("arguments come before room", Check.ARGUMENT, () -> x.read(2, 4, 3));
        Check.due("still 20", 20, () -> x.back(2, 2));
        Check.end();
    }
}
