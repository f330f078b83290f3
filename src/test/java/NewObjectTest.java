/** Promise 1: a new object. */
public final class NewObjectTest {
    public static void main(String[] args) {
        SteamBends x = new SteamBends();
        for (int i = 0; i < 4; i++) {
            int kind = i;
            Check.due("spring", 0.25, () -> x.back(kind, 0));
            Check.due("step", 0.25, () -> x.back(kind, 1));
            Check.due("residue", 0, () -> x.back(kind, 2));
            Check.dueThrow("no rows", Check.STATE, () -> x.radius(kind, 10));
            Check.due("no strips", SteamBends.NONE, () -> x.strips(kind, 10, 10000));
        }
        Check.due("no pieces", 0, () -> x.length(true, 1000));
        Check.dueThrow("no kerfs", Check.STATE, () -> x.kerfAt(0, 1));
        Check.dueThrow("no rest", Check.STATE, () -> x.rest());
        for (int i = 0; i < 4; i++) {
            int kind = i;
            Check.due("first row", 1, () -> x.table(kind, 10, 100));
            Check.due("first reading", 1, () -> x.read(kind, 10, 12));
        }
        Check.due("first piece", 1, () -> x.piece(1, 0));
        Check.due("NONE", -1, () -> SteamBends.NONE);

        SteamBends other = new SteamBends();
        Check.dueThrow("objects share no rows", Check.STATE, () -> other.radius(0, 10));
        Check.due("objects share no readings", 0, () -> other.back(0, 2));
        Check.due("objects share no pieces", 0, () -> other.length(true, 1));
        Check.end();
    }
}
