/** Promise 10: piece. */
public final class PieceTest {
    public static void main(String[] args) {
        SteamBends x = new SteamBends();
        for (double bad : Check.NO_NUMBERS) {
            Check.dueThrow("length " + bad, Check.ARGUMENT, () -> x.piece(bad, 5));
            Check.dueThrow("radius " + bad, Check.ARGUMENT, () -> x.piece(5, bad));
        }
        Check.dueThrow("length below", Check.ARGUMENT, () -> x.piece(-Double.MIN_VALUE, 0));
        Check.dueThrow("length above", Check.ARGUMENT, () -> x.piece(Math.nextUp(10000.0), 0));
        Check.dueThrow("radius above 0", Check.ARGUMENT, () -> x.piece(5, Double.MIN_VALUE));
        Check.dueThrow("radius 0.5", Check.ARGUMENT, () -> x.piece(5, 0.5));
        Check.dueThrow("radius below 1", Check.ARGUMENT, () -> x.piece(5, Math.nextDown(1.0)));
        Check.dueThrow("radius above", Check.ARGUMENT, () -> x.piece(5, Math.nextUp(10000.0)));
        Check.due("none of these is a piece", 0, () -> x.length(false, 1000));
        Check.due("least", 1, () -> x.piece(0, 0));
        Check.due("least radius", 2, () -> x.piece(0, 1));
        Check.due("most", 3, () -> x.piece(10000, 10000));
        Check.due("straight and long", 4, () -> x.piece(10000, 0));
        for (int i = 5; i <= 12; i++) {
            int n = i;
            Check.due("piece " + n, n, () -> x.piece(n, 0));
        }
        Check.dueThrow("the 13th", Check.STATE, () -> x.piece(1, 1));
        Check.dueThrow("arguments come before room", Check.ARGUMENT, () -> x.piece(1, 0.5));
        Check.due("still 12", 20068, () -> x.length(true, 0));
        Check.end();
    }
}
