/** Promise 13: kerfs. */
public final class KerfsTest {
    public static void main(String[] args) {
        SteamBends x = new SteamBends();
        Check.due("90", 14, () -> x.kerfs(90, 20, 3, 2));
        Check.due("180", 59, () -> x.kerfs(180, 25, 2.5, 1.2));
        Check.due("45", 4, () -> x.kerfs(45, 19, 4, 3.2));
        Check.due("most of all", 50260, () -> x.kerfs(360, 1000, 0.125, 0.125));
        Check.due("a small angle", 140, () -> x.kerfs(1, 1000, 0.125, 0.125));
        Check.due("a wide saw", 1, () -> x.kerfs(360, 1, 0.125, 100));
        Check.due("nearly all stays", 1, () -> x.kerfs(360, 1000, Math.nextDown(1000.0), 0.125));
        Check.due("just one", 1, () -> x.kerfs(28.64788975654116, 10, 8, 1));
        Check.due("just two", 2, () -> x.kerfs(57.29577951308232, 10, 8, 1));
        Check.due("just not two", 3, () -> x.kerfs(Math.nextUp(57.29577951308232), 10, 8, 1));
        Check.due("just three", 3, () -> x.kerfs(171.88733853924697, 3, 2, 1));
        Check.due("just not three", 4, () -> x.kerfs(171.887338539247, 3, 2, 1));
        wrongNumbers(x);
        Check.end();
    }

    private static void wrongNumbers(SteamBends x) {
        Check.due("before", 14, () -> x.kerfs(90, 20, 3, 2));
        for (double bad : Check.NO_NUMBERS) {
            Check.dueThrow("angle " + bad, Check.ARGUMENT, () -> x.kerfs(bad, 5, 1, 1));
            Check.dueThrow("thick " + bad, Check.ARGUMENT, () -> x.kerfs(90, bad, 1, 1));
            Check.dueThrow("stays " + bad, Check.ARGUMENT, () -> x.kerfs(90, 5, bad, 1));
            Check.dueThrow("saw " + bad, Check.ARGUMENT, () -> x.kerfs(90, 5, 1, bad));
        }
        Check.dueThrow("angle below", Check.ARGUMENT, () -> x.kerfs(Math.nextDown(1.0), 5, 1, 1));
        Check.dueThrow("angle above", Check.ARGUMENT, () -> x.kerfs(Math.nextUp(360.0), 5, 1, 1));
        Check.dueThrow("thick below", Check.ARGUMENT, () -> x.kerfs(90, Math.nextDown(1.0), 0.5, 1));
        Check.dueThrow("thick above", Check.ARGUMENT, () -> x.kerfs(90, Math.nextUp(1000.0), 1, 1));
        Check.dueThrow("stays below", Check.ARGUMENT, () -> x.kerfs(90, 5, Math.nextDown(0.125), 1));
        Check.dueThrow("all stays", Check.ARGUMENT, () -> x.kerfs(90, 5, 5, 1));
        Check.dueThrow("more stays", Check.ARGUMENT, () -> x.kerfs(90, 5, 6, 1));
        Check.dueThrow("saw below", Check.ARGUMENT, () -> x.kerfs(90, 5, 1, Math.nextDown(0.125)));
        Check.dueThrow("saw above", Check.ARGUMENT, () -> x.kerfs(90, 5, 1, Math.nextUp(100.0)));
        Check.due("the latest are still those", 4.36951919801794, () -> x.rest());
        Check.due("and as many", 96.42857142857143, () -> x.kerfAt(13, 100));
        Check.dueThrow("and no more", Check.INDEX, () -> x.kerfAt(14, 100));
    }
}
