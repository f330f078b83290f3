/** Promise 11: clear with no pieces, one, some and all 12. */
public final class ClearEdgesTest {
    public static void main(String[] args) {
        noneAfterAnyNumber();
        nothingElse();
        Check.end();
    }

    // "There are no PIECES.": none, however many there were, and room for 12 again.
    private static void noneAfterAnyNumber() {
        for (int before : new int[] {0, 1, 2, 11, 12}) {
            SteamBends x = new SteamBends();
            for (int i = 0; i < before; i++) {
                x.piece(7, 1 + i);
            }
            x.clear();
            Check.due("no length inside, of " + before, 0, () -> x.length(false, 0));
            Check.due("no least radius", 0, () -> x.length(true, 1000));
            x.clear();
            Check.due("cleared again", 0, () -> x.length(true, 1000));
            for (int n = 1; n <= 12; n++) {
                int piece = n;
                Check.due("piece " + piece + " after " + before, piece, () -> x.piece(2, 0));
                Check.due("no more than those", 2 * piece, () -> x.length(true, 1000));
            }
            Check.dueThrow("piece 13 after " + before, Check.STATE, () -> x.piece(2, 0));
        }
        SteamBends x = new SteamBends();
        for (int i = 1; i <= 30; i++) {
            int round = i;
            Check.due("first of round " + round, 1, () -> x.piece(round, 3));
            Check.due("second of round " + round, 2, () -> x.piece(round, 0));
            Check.due("their length", 2 * round, () -> x.length(false, 0));
            x.clear();
        }
    }

    // Rows, readings, springs and kerfs are as before.
    private static void nothingElse() {
        for (Twins.Past past : Twins.ANY) {
            SteamBends cleared = past.begin();
            SteamBends twin = past.begin();
            cleared.clear();
            cleared.piece(3, 9);
            cleared.clear();
            // Without pieces both must be alike from here on.
            twin.clear();
            Twins.same("cleared, " + past, cleared, twin);
        }
        for (Twins.Past past : Twins.ANY) {
            SteamBends x = past.begin();
            x.clear();
            past.tellPieces(x);
            Twins.same("cleared and told again, " + past, x, past.begin());
        }
        SteamBends x = new SteamBends();
        for (int i = 0; i < 4; i++) {
            x.read(i, 8, 12);
            x.fit(i, 3);
        }
        x.clear();
        for (int i = 0; i < 4; i++) {
            int kind = i;
            Check.due("spring stays", 0.5, () -> x.back(kind, 0));
            Check.due("step stays", 0.0625, () -> x.back(kind, 1));
        }
    }
}
