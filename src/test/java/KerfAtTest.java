/** Promise 14: kerfAt. */
public final class KerfAtTest {
    public static void main(String[] args) {
        SteamBends x = new SteamBends();
        Check.dueThrow("there was none", Check.STATE, () -> x.kerfAt(0, 1));
        Check.dueThrow("the state comes first", Check.STATE, () -> x.kerfAt(-1, -1));
        Check.dueThrow("refused kerfs are none", Check.ARGUMENT, () -> x.kerfs(90, 5, 5, 1));
        Check.dueThrow("so there was none", Check.STATE, () -> x.kerfAt(0, 1));
        x.kerfs(90, 20, 3, 2);
        Check.due("first", 3.5714285714285716, () -> x.kerfAt(0, 100));
        Check.due("second", 10.714285714285714, () -> x.kerfAt(1, 100));
        Check.due("last", 96.42857142857143, () -> x.kerfAt(13, 100));
        Check.due("times before divided", 30.525000000000002, () -> x.kerfAt(5, 77.7));
        Check.due("length 0", 0, () -> x.kerfAt(3, 0));
        Check.due("length 10000", 10000 * 7.0 / 28, () -> x.kerfAt(3, 10000));
        for (int k : new int[] {-1, 14, Integer.MIN_VALUE, Integer.MAX_VALUE}) {
            Check.dueThrow("kerf " + k, Check.INDEX, () -> x.kerfAt(k, 1));
            Check.dueThrow("the index comes before the length", Check.INDEX, () -> x.kerfAt(k, -1));
        }
        for (double bad : Check.NO_NUMBERS) {
            Check.dueThrow("length " + bad, Check.ARGUMENT, () -> x.kerfAt(0, bad));
        }
        Check.dueThrow("length below", Check.ARGUMENT, () -> x.kerfAt(0, -Double.MIN_VALUE));
        Check.dueThrow("length above", Check.ARGUMENT, () -> x.kerfAt(0, Math.nextUp(10000.0)));
        x.kerfs(360, 1000, 0.125, 0.125);
        Check.due("the last of most", 9999.900517309989, () -> x.kerfAt(50259, 10000));
        Check.dueThrow("behind the last of most", Check.INDEX, () -> x.kerfAt(50260, 10000));
        x.kerfs(1, 1, 0.875, 100);
        Check.due("the latest count", 3.5, () -> x.kerfAt(0, 7));
        Check.dueThrow("only the latest", Check.INDEX, () -> x.kerfAt(1, 7));
        Check.end();
    }
}
