/** "Of several exceptions the one named first is thrown", for each two that can meet in a call. */
public final class OrderEdgesTest {
    private static final int[] NO_KINDS = {-1, 4, Integer.MIN_VALUE, Integer.MAX_VALUE};

    public static void main(String[] args) {
        kindBeforeNumbers();
        numbersBeforeRoom();
        numbersBeforeNone();
        Check.end();
    }

    private static void kindBeforeNumbers() {
        for (int kind : NO_KINDS) {
            for (double bad : Check.NO_NUMBERS) {
                Twins.refused("table, thick", Check.INDEX, Twins.ANY, x -> x.table(kind, bad, 50));
                Twins.refused("table, radius", Check.INDEX, Twins.ANY, x -> x.table(kind, 500, bad));
                Twins.refused("radius", Check.INDEX, Twins.ANY, x -> x.radius(kind, bad));
                Twins.refused("strips, thick", Check.INDEX, Twins.ANY, x -> x.strips(kind, bad, 50));
                Twins.refused("strips, radius", Check.INDEX, Twins.ANY, x -> x.strips(kind, 5, bad));
                Twins.refused("read, bent", Check.INDEX, Twins.ANY, x -> x.read(kind, bad, 5));
                Twins.refused("read, kept", Check.INDEX, Twins.ANY, x -> x.read(kind, 5, bad));
                Twins.refused("form", Check.INDEX, Twins.ANY, x -> x.form(kind, bad));
            }
            for (int bad : new int[] {-1, 10001, Integer.MIN_VALUE, Integer.MAX_VALUE}) {
                Twins.refused("fit", Check.INDEX, Twins.ANY, x -> x.fit(kind, bad));
                Twins.refused("relaxed", Check.INDEX, Twins.ANY, x -> x.relaxed(kind, bad));
            }
        }
    }

    private static void numbersBeforeRoom() {
        for (double bad : Check.NO_NUMBERS) {
            Twins.refused("table, thick", Check.ARGUMENT, Twins.WITH_ALL, x -> x.table(0, bad, 50));
            Twins.refused("table, radius", Check.ARGUMENT, Twins.WITH_ALL, x -> x.table(0, 500, bad));
            Twins.refused("read, bent", Check.ARGUMENT, Twins.WITH_ALL, x -> x.read(0, bad, 5));
            Twins.refused("read, kept", Check.ARGUMENT, Twins.WITH_ALL, x -> x.read(0, 5, bad));
            Twins.refused("piece, length", Check.ARGUMENT, Twins.WITH_ALL, x -> x.piece(bad, 5));
            Twins.refused("piece, radius", Check.ARGUMENT, Twins.WITH_ALL, x -> x.piece(5, bad));
        }
        Twins.refused("table, not above the row before", Check.ARGUMENT, Twins.WITH_ALL, x -> x.table(0, 12, 50));
        Twins.refused("table, room is asked for last", Check.STATE, Twins.WITH_ALL, x -> x.table(0, 12.125, 50));
        Twins.refused("read, room is asked for last", Check.STATE, Twins.WITH_ALL, x -> x.read(0, 5, 5));
        Twins.refused("piece, room is asked for last", Check.STATE, Twins.WITH_ALL, x -> x.piece(5, 5));
    }

    private static void numbersBeforeNone() {
        for (double bad : Check.NO_NUMBERS) {
            Twins.refused("radius", Check.ARGUMENT, Twins.WITHOUT_ALL, x -> x.radius(0, bad));
        }
        Twins.refused("radius, none is asked for last", Check.STATE, Twins.WITHOUT_ALL, x -> x.radius(0, 5));
    }
}
