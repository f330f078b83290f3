/** Promise 12: length. */
public final class LengthTest {
    public static void main(String[] args) {
        oneByOne();
        radiusOfOne();
        summedFromTheFirstOn();
        wrongNumbers();
        Check.end();
    }

    private static void oneByOne() {
        SteamBends x = new SteamBends();
        Check.due("no pieces", 0, () -> x.length(true, 3));
        x.piece(10, 0);
        Check.due("straight", 10, () -> x.length(true, 1000));
        x.piece(20, 5);
        Check.due("inside", 26, () -> x.length(false, 2));
        Check.due("outside", 34, () -> x.length(true, 2));
        Check.due("without a thickness", 30, () -> x.length(false, 0));
        Check.due("twice the radius, inside", 10, () -> x.length(false, 10));
        Check.due("twice the radius, outside", 50, () -> x.length(true, 10));
    }

    private static void radiusOfOne() {
        SteamBends x = new SteamBends();
        x.piece(6, 1);
        Check.due("inside", 3, () -> x.length(false, 1));
        Check.due("outside", 12, () -> x.length(true, 2));
        Check.dueThrow("above twice the first piece's", Check.ARGUMENT, () -> x.length(true, Math.nextUp(2.0)));
    }

    private static void summedFromTheFirstOn() {
        SteamBends x = new SteamBends();
        x.piece(0.1, 0);
        x.piece(0.2, 3);
        x.piece(0.3, 7);
        x.piece(12.7, 1.1);
        Check.due("0", 13.299999999999999, () -> x.length(false, 0));
        Check.due("inside 1", 7.472510822510823, () -> x.length(false, 1));
        Check.due("outside 1", 19.127489177489178, () -> x.length(true, 1));
        Check.due("inside 2.2", 0.4795238095238095, () -> x.length(false, 2.2));
        Check.due("outside 2.2", 26.12047619047619, () -> x.length(true, 2.2));

        SteamBends other = new SteamBends();
        other.piece(12.7, 1.1);
        other.piece(0.3, 7);
        other.piece(0.2, 3);
        other.piece(0.1, 0);
        Check.due("the other way round", 19.12748917748918, () -> other.length(true, 1));
    }

    private static void wrongNumbers() {
        SteamBends x = new SteamBends();
        for (double bad : Check.NO_NUMBERS) {
            Check.dueThrow("thick " + bad, Check.ARGUMENT, () -> x.length(true, bad));
        }
        Check.dueThrow("below", Check.ARGUMENT, () -> x.length(false, -Double.MIN_VALUE));
        Check.dueThrow("above", Check.ARGUMENT, () -> x.length(false, Math.nextUp(1000.0)));
        x.piece(1, 10000);
        Check.dueThrow("above, with a large radius", Check.ARGUMENT, () -> x.length(false, Math.nextUp(1000.0)));
        Check.due("a large radius", 1 * (10000 + 500.0) / 10000, () -> x.length(true, 1000));
        x.piece(2, 400);
        Check.due("twice the least", 1 * (10000 - 400.0) / 10000, () -> x.length(false, 800));
        Check.dueThrow("above twice the least, inside", Check.ARGUMENT, () -> x.length(false, Math.nextUp(800.0)));
        Check.dueThrow("above twice the least, outside", Check.ARGUMENT, () -> x.length(true, Math.nextUp(800.0)));
        x.piece(0, 1);
        x.piece(5, 0);
        x.piece(5, 300);
        Check.dueThrow("a piece without length counts", Check.ARGUMENT, () -> x.length(true, 2.125));
        Check.due("all of them", 13, () -> x.length(true, 0));
    }
}
