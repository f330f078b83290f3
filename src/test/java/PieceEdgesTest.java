/** Promise 10: each edge that is told of piece, from both sides. */
public final class PieceEdgesTest {
    private static final double[] NO_RADII = {
        Double.MIN_VALUE, -Double.MIN_VALUE, 0.125, 0.5, Math.nextDown(1.0), -1, Math.nextDown(-1.0), -10000,
        Math.nextUp(10000.0), 10000.125, 20000, Double.MAX_VALUE, -Double.MAX_VALUE, Double.NaN,
        Double.POSITIVE_INFINITY, Double.NEGATIVE_INFINITY};

    public static void main(String[] args) {
        lengthRange();
        radiusRange();
        twelvePieces();
        refusedWhenFull();
        Check.end();
    }

    // "length is not 0 .. 10000"
    private static void lengthRange() {
        Edges.taken("length", 0, 10000, Twins.WITHOUT_ALL, (x, length) -> x.piece(length, 5), length -> 1);
        Edges.taken("length behind others", 0, 10000, new Twins.Past[] {Twins.Past.USED},
                (x, length) -> x.piece(length, 0), length -> 4);
        Edges.taken("length is kept", 0, 10000, Twins.WITHOUT_ALL,
                (x, length) -> x.piece(length, 0) * x.length(true, 0), length -> length);
        Edges.refused("length", 0, 10000, Twins.ANY, (x, length) -> x.piece(length, 5));
        Edges.refused("length of a straight one", 0, 10000, Twins.ANY, (x, length) -> x.piece(length, 0));
        SteamBends x = new SteamBends();
        Check.due("a length of -0 is one of 0", 1, () -> x.piece(-0.0, 0));
        Check.due("and adds nothing", 0, () -> x.length(false, 0));
    }

    // "or radius neither 0 nor 1 .. 10000"
    private static void radiusRange() {
        Edges.taken("radius", 1, 10000, Twins.WITHOUT_ALL, (x, radius) -> x.piece(5, radius), radius -> 1);
        Edges.taken("radius is kept", 1, 10000, Twins.WITHOUT_ALL,
                (x, radius) -> x.piece(5, radius) * x.length(true, 1), radius -> 5 * (radius + 0.5) / radius);
        for (double radius : NO_RADII) {
            Twins.refused("radius " + radius, Check.ARGUMENT, Twins.ANY, x -> x.piece(5, radius));
            Twins.refused("radius " + radius + ", no length", Check.ARGUMENT, Twins.ANY, x -> x.piece(0, radius));
        }
        for (double straight : new double[] {0, -0.0}) {
            SteamBends x = new SteamBends();
            Check.due("straight", 1, () -> x.piece(5, straight));
            Check.due("as it is, inside", 5, () -> x.length(false, 1000));
            Check.due("as it is, outside", 5, () -> x.length(true, 1000));
        }
    }

    // "A SHAPE is of PIECES, 12 at most": "there are 12"
    private static void twelvePieces() {
        SteamBends x = new SteamBends();
        double sum = 0;
        for (int n = 1; n <= 12; n++) {
            int piece = n;
            Check.due("piece " + piece, piece, () -> x.piece(piece, 400 - piece));
            sum += piece;
            double due = sum;
            Check.due("all of them", due, () -> x.length(true, 0));
        }
        Check.dueThrow("piece 13", Check.STATE, () -> x.piece(1, 5));
        Check.dueThrow("piece 13, straight", Check.STATE, () -> x.piece(10000, 0));
        Check.due("12 are there", 78, () -> x.length(false, 0));
        Check.holds("twice the last one's radius", x.length(false, 776) < 78 && x.length(true, 776) > 78);
        Check.dueThrow("above twice the last one's", Check.ARGUMENT, () -> x.length(false, Math.nextUp(776.0)));
    }

    private static void refusedWhenFull() {
        Twins.refused("piece 13", Check.STATE, Twins.WITH_ALL, x -> x.piece(1, 5));
        Twins.refused("piece 13, of least radius", Check.STATE, Twins.WITH_ALL, x -> x.piece(0, 1));
        Twins.refused("piece 13, of most", Check.STATE, Twins.WITH_ALL, x -> x.piece(10000, 10000));
        Twins.refused("piece 13, straight", Check.STATE, Twins.WITH_ALL, x -> x.piece(0, 0));
        Twins.refused("full, and no length", Check.ARGUMENT, Twins.WITH_ALL, x -> x.piece(-1, 5));
        Twins.refused("full, and no radius", Check.ARGUMENT, Twins.WITH_ALL, x -> x.piece(1, 0.5));
    }
}
