/** "KINDS 0 .. 3", and "IndexOutOfBoundsException: there is no such kind", for each call with a kind. */
public final class KindsEdgesTest {
    public static void main(String[] args) {
        firstAndLastKind();
        noSuchKind();
        kindsKeepApart();
        Check.end();
    }

    private static void firstAndLastKind() {
        Edges.takenWhole("table", 0, 3, Twins.WITHOUT_ALL, (x, kind) -> x.table(kind, 5, 50), kind -> 1);
        Edges.takenWhole("radius", 0, 3, Twins.WITH_ALL, (x, kind) -> x.radius(kind, 5 + kind / 8.0), kind -> 50 + kind);
        Edges.takenWhole("strips", 0, 3, Twins.WITH_ALL, (x, kind) -> x.strips(kind, 5 + kind / 8.0, 50 + kind), kind -> 1);
        Edges.takenWhole("read", 0, 3, Twins.WITHOUT_ALL, (x, kind) -> x.read(kind, 5, 6), kind -> 1);
        Edges.takenWhole("fit", 0, 3, Twins.WITHOUT_ALL, (x, kind) -> x.fit(kind, 5), kind -> 0);
        Edges.takenWhole("back", 0, 3, Twins.WITHOUT_ALL, (x, kind) -> x.back(kind, 1), kind -> 0.25);
        Edges.takenWhole("form", 0, 3, Twins.WITHOUT_ALL, (x, kind) -> x.form(kind, 100), kind -> 80.00000000001819);
        Edges.takenWhole("relaxed", 0, 3, Twins.WITHOUT_ALL, (x, kind) -> x.relaxed(kind, 8), kind -> 1.125);
    }

    private static void noSuchKind() {
        Edges.refusedWhole("table", 0, 3, Check.INDEX, Twins.ANY, (x, kind) -> x.table(kind, 500, 50));
        Edges.refusedWhole("radius", 0, 3, Check.INDEX, Twins.ANY, (x, kind) -> x.radius(kind, 5));
        Edges.refusedWhole("strips", 0, 3, Check.INDEX, Twins.ANY, (x, kind) -> x.strips(kind, 5, 50));
        Edges.refusedWhole("read", 0, 3, Check.INDEX, Twins.ANY, (x, kind) -> x.read(kind, 5, 6));
        Edges.refusedWhole("fit", 0, 3, Check.INDEX, Twins.ANY, (x, kind) -> x.fit(kind, 5));
        Edges.refusedWhole("fit of 0 rounds", 0, 3, Check.INDEX, Twins.ANY, (x, kind) -> x.fit(kind, 0));
        for (int i = 0; i < 3; i++) {
            int what = i;
            Edges.refusedWhole("back of " + what, 0, 3, Check.INDEX, Twins.ANY, (x, kind) -> x.back(kind, what));
        }
        Edges.refusedWhole("form", 0, 3, Check.INDEX, Twins.ANY, (x, kind) -> x.form(kind, 100));
        Edges.refusedWhole("relaxed", 0, 3, Check.INDEX, Twins.ANY, (x, kind) -> x.relaxed(kind, 8));
    }

    // What one kind is told stays with it, whichever the kind.
    private static void kindsKeepApart() {
        for (int i = 0; i < 4; i++) {
            int kind = i;
            SteamBends x = new SteamBends();
            x.table(kind, 5, 50);
            x.read(kind, 4, 6);
            x.fit(kind, 4);
            for (int j = 0; j < 4; j++) {
                int other = j;
                if (other == kind) {
                    Check.due("its row", 50, () -> x.radius(other, 5));
                    Check.due("its spring", 0.5, () -> x.back(other, 0));
                    Check.due("its step", 0.03125, () -> x.back(other, 1));
                    Check.due("its residue", 0, () -> x.back(other, 2));
                } else {
                    Check.dueThrow("no row", Check.STATE, () -> x.radius(other, 5));
                    Check.due("the first spring", 0.25, () -> x.back(other, 0));
                    Check.due("the first step", 0.25, () -> x.back(other, 1));
                    Check.due("the first row", 1, () -> x.table(other, 3, 50));
                    Check.due("the first reading", 1, () -> x.read(other, 4, 5));
                }
            }
            Check.due("still its row", 50, () -> x.radius(kind, 5));
            Check.due("its second row", 2, () -> x.table(kind, 6, 50));
            Check.due("its second reading", 2, () -> x.read(kind, 4, 5));
        }
    }
}
