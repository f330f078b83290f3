/** Promise 8: form. */
public final class FormTest {
    public static void main(String[] args) {
        SteamBends x = new SteamBends();
        Check.due("100", 80.00000000001819, () -> x.form(0, 100));
        Check.due("least", 0.10000000000002274, () -> x.form(3, 0.125));
        Check.due("most", 80000.00000001819, () -> x.form(1, 100000));
        Check.due("37.5", 30.00000000000682, () -> x.form(2, 37.5));
        x.read(2, 5, 5);
        x.fit(2, 1);
        Check.due("no spring", 100, () -> x.form(2, 100));
        Check.due("no spring, a third", 1.0 / 3, () -> x.form(2, 1.0 / 3));
        x.read(1, 1, 2);
        x.fit(1, 3);
        Check.due("not below is high", 4, () -> x.form(1, 8));
        x.read(3, 8, 9);
        x.fit(3, 2);
        Check.due("a spring of an eighth", 0.125, () -> x.back(3, 0));
        Check.due("neither 39 nor 41 times", 88.88888888895963, () -> x.form(3, 100));
        Check.due("the other kinds stay", 80.00000000001819, () -> x.form(0, 100));
        for (int kind : Check.NO_KINDS) {
            Check.dueThrow("form of kind " + kind, Check.INDEX, () -> x.form(kind, 1));
            Check.dueThrow("the kind comes first", Check.INDEX, () -> x.form(kind, 0));
        }
        for (double bad : Check.NO_NUMBERS) {
            Check.dueThrow("wanted " + bad, Check.ARGUMENT, () -> x.form(0, bad));
        }
        Check.dueThrow("wanted 0", Check.ARGUMENT, () -> x.form(0, 0));
        Check.dueThrow("wanted below", Check.ARGUMENT, () -> x.form(0, Math.nextDown(0.125)));
        Check.dueThrow("wanted above", Check.ARGUMENT, () -> x.form(0, Math.nextUp(100000.0)));
        Check.end();
    }
}
