/** Promise 16: broken. */
public final class BrokenTest {
    public static void main(String[] args) {
        fractions(1, 0, 0, 1, 1, 2);
        fractions(1, 1, 1, 2, 1, 1);
        fractions(9, 4, 2, 5, 1, 2);
        fractions(11, 8, 2, 3, 3, 4);
        fractions(6, 2, 2, 7, 3, 7);
        fractions(999999, 0, 0, 1, 1, 1000000);
        fractions(999999, 374999, 374999, 1000000, 3, 8);
        fractions(1000000, 1000000, 1000000, 1000001, 1, 1);
        // Of all numbers up to 1000001, 514229 and 832040 keep Euclid busy for the longest.
        fractions(832039, 514228, 377, 610, 514229, 832040);
        wrongNumbers();
        Check.end();
    }

    private static void fractions(int n, int bad, long above0, long below0, long above1, long below1) {
        SteamBends x = new SteamBends();
        String name = n + " and " + bad + ", part ";
        Check.due(name + 0, above0, () -> x.broken(n, bad, 0));
        Check.due(name + 1, below0, () -> x.broken(n, bad, 1));
        Check.due(name + 2, above1, () -> x.broken(n, bad, 2));
        Check.due(name + 3, below1, () -> x.broken(n, bad, 3));
    }

    private static void wrongNumbers() {
        SteamBends x = new SteamBends();
        for (int part : new int[] {-1, 4, Integer.MIN_VALUE, Integer.MAX_VALUE}) {
            Check.dueThrow("part " + part, Check.INDEX, () -> x.broken(5, 2, part));
            Check.dueThrow("the part comes first", Check.INDEX, () -> x.broken(0, -1, part));
        }
        for (int n : new int[] {0, -1, 1000001, Integer.MIN_VALUE, Integer.MAX_VALUE}) {
            Check.dueThrow("n " + n, Check.ARGUMENT, () -> x.broken(n, 0, 0));
        }
        for (int bad : new int[] {-1, 6, Integer.MIN_VALUE, Integer.MAX_VALUE}) {
            Check.dueThrow("bad " + bad, Check.ARGUMENT, () -> x.broken(5, bad, 3));
        }
    }
}
