/** Promise 15: each edge that is told of rest, from both sides. */
public final class RestEdgesTest {
    public static void main(String[] args) {
        thereWasNone();
        restOfNothing();
        latestAlone();
        Check.end();
    }

    // "IllegalStateException: there was none": before the first kerfs(), not behind it.
    private static void thereWasNone() {
        Twins.refused("none", Check.STATE, Twins.WITHOUT_ALL, x -> x.rest());
        SteamBends x = new SteamBends();
        x.table(0, 5, 50);
        x.read(0, 5, 6);
        x.piece(5, 6);
        x.minutes(5);
        Check.dueThrow("other calls ask for none", Check.STATE, () -> x.rest());
        Check.dueThrow("refused kerfs", Check.ARGUMENT, () -> x.kerfs(0, 20, 3, 2));
        Check.dueThrow("are none", Check.STATE, () -> x.rest());
        x.kerfs(90, 20, 3, 2);
        Check.due("behind kerfs()", 4.36951919801794, () -> x.rest());
        x.clear();
        Check.due("behind clear()", 4.36951919801794, () -> x.rest());
    }

    // "what that is above it": 0 if it is nothing, nearly a whole ANGLE if one more was needed.
    private static void restOfNothing() {
        double closes = 57.29577951308232;
        SteamBends x = new SteamBends();
        x.kerfs(closes, 2, 1, 1);
        Check.due("nothing above one", 0, () -> x.rest());
        x.kerfs(Math.nextUp(closes), 2, 1, 1);
        Check.due("two, just above one", 2 * closes - Math.nextUp(closes), () -> x.rest());
        x.kerfs(Math.nextDown(closes), 2, 1, 1);
        Check.due("one, just below one", closes - Math.nextDown(closes), () -> x.rest());
        x.kerfs(1, 2, 1, 1);
        Check.due("the least angle", closes - 1, () -> x.rest());
        x.kerfs(360, 2, 1, 1);
        Check.due("the most", 7 * closes - 360, () -> x.rest());
        x.kerfs(360, 1, Math.nextDown(1.0), 100);
        Check.due("the largest rest", 100 / (1 - Math.nextDown(1.0)) * closes - 360, () -> x.rest());
    }

    // "of the latest kerfs()"
    private static void latestAlone() {
        Twins.onlyAnswers("rest", 4.36951919801794, new Twins.Past[] {Twins.Past.USED}, x -> x.rest());
        Twins.onlyAnswers("rest", 0.29071953449903276, Twins.WITH_ALL, x -> x.rest());
        SteamBends x = Twins.Past.USED.begin();
        x.kerfs(57.29577951308232, 2, 1, 1);
        Check.due("of the later", 0, () -> x.rest());
        x.kerfs(90, 20, 3, 2);
        Check.due("of the latest", 4.36951919801794, () -> x.rest());
    }
}
