/** Promise 11: clear. */
public final class ClearTest {
    public static void main(String[] args) {
        SteamBends x = new SteamBends();
        x.clear();
        Check.due("still none", 0, () -> x.length(true, 5));
        for (int i = 1; i <= 12; i++) {
            x.piece(i, 1);
        }
        x.table(0, 5, 50);
        x.read(0, 4, 6);
        x.kerfs(90, 20, 3, 2);
        x.clear();
        Check.due("no pieces", 0, () -> x.length(true, 0));
        Check.due("no least radius", 0, () -> x.length(false, 1000));
        Check.due("rows stay", 50, () -> x.radius(0, 5));
        Check.due("readings stay", 1, () -> x.back(0, 2));
        Check.due("kerfs stay", 4.36951919801794, () -> x.rest());
        Check.due("the first again", 1, () -> x.piece(8, 2));
        Check.due("only that one", 8, () -> x.length(true, 0));
        for (int i = 2; i <= 12; i++) {
            int n = i;
            Check.due("piece " + n, n, () -> x.piece(n, 0));
        }
        Check.dueThrow("the 13th", Check.STATE, () -> x.piece(1, 0));
        Check.end();
    }
}
