/** "An object is used for at most 512 calls": the 512th is answered like the first. */
public final class CallsEdgesTest {
    private static final int CALLS = 512;

    private interface Told {
        void to(SteamBends x);
    }

    public static void main(String[] args) {
        lastCalls();
        sameCallThroughout();
        Check.end();
    }

    // The 511th and the 512th call, behind calls that change nothing.
    private static void lastCalls() {
        last("table", 1, x -> { }, x -> x.table(0, 5, 50));
        last("radius", 50, x -> x.table(0, 5, 50), x -> x.radius(0, 5));
        last("strips", 4, x -> x.table(0, 5, 50), x -> x.strips(0, 20, 50));
        last("read", 1, x -> { }, x -> x.read(0, 4, 6));
        last("fit", 1, x -> x.read(0, 4, 6), x -> x.fit(0, 1));
        last("spring", 0.25, x -> x.read(0, 4, 6), x -> x.back(0, 0));
        last("residue", 1, x -> x.read(0, 4, 6), x -> x.back(0, 2));
        last("form", 80.00000000001819, x -> { }, x -> x.form(0, 100));
        last("minutes", 145, x -> { }, x -> x.minutes(50) + 20);
        last("piece", 1, x -> { }, x -> x.piece(5, 0));
        last("length", 5, x -> x.piece(5, 0), x -> x.length(true, 1));
        last("kerfs", 14, x -> { }, x -> x.kerfs(90, 20, 3, 2));
        last("kerfAt", 96.42857142857143, x -> x.kerfs(90, 20, 3, 2), x -> x.kerfAt(13, 100));
        last("rest", 4.36951919801794, x -> x.kerfs(90, 20, 3, 2), x -> x.rest());
        last("broken", 5, x -> { }, x -> x.broken(9, 4, 1));
        last("relaxed", 1.125, x -> { }, x -> x.relaxed(0, 8));
        lastRefused("table", Check.ARGUMENT, x -> x.table(0, 0, 5));
        lastRefused("radius", Check.STATE, x -> x.radius(0, 5));
        lastRefused("strips", Check.INDEX, x -> x.strips(4, 5, 5));
        lastRefused("rest", Check.STATE, x -> x.rest());
        lastRefused("kerfAt", Check.STATE, x -> x.kerfAt(0, 1));
    }

    private static void last(String name, double due, Told first, Twins.Ask call) {
        for (int at : new int[] {CALLS - 1, CALLS}) {
            SteamBends x = new SteamBends();
            first.to(x);
            for (int i = 2; i < at; i++) {
                changeNothing(x, i);
            }
            Check.due(name + " as call " + at, due, () -> call.of(x));
        }
    }

    private static void lastRefused(String name, Class<? extends RuntimeException> want, Twins.Ask call) {
        SteamBends x = new SteamBends();
        for (int i = 1; i < CALLS; i++) {
            changeNothing(x, i);
        }
        Check.dueThrow(name + " as call " + CALLS, want, () -> call.of(x));
    }

    private static void changeNothing(SteamBends x, int i) {
        switch (i % 12) {
            case 0 -> Check.dueThrow("table", Check.ARGUMENT, () -> x.table(i % 4, 0, 5));
            case 1 -> Check.dueThrow("radius", Check.ARGUMENT, () -> x.radius(i % 4, 1001));
            case 2 -> Check.due("strips", -1, () -> x.strips(1 + i % 3, 5, 5));
            case 3 -> Check.dueThrow("read", Check.ARGUMENT, () -> x.read(i % 4, 5, 4));
            case 4 -> Check.due("fit", 0, () -> x.fit(i % 4, 0));
            case 5 -> Check.due("back", 0.25, () -> x.back(i % 4, 1));
            case 6 -> Check.due("form", 80.00000000001819, () -> x.form(i % 4, 100));
            case 7 -> Check.due("minutes", 25, () -> x.minutes(10));
            case 8 -> Check.dueThrow("piece", Check.ARGUMENT, () -> x.piece(-1, 5));
            case 9 -> Check.dueThrow("kerfs", Check.ARGUMENT, () -> x.kerfs(90, 5, 5, 5));
            case 10 -> Check.due("broken", 2, () -> x.broken(9, 4, 0));
            default -> Check.due("relaxed", 1, () -> x.relaxed(i % 4, 0));
        }
    }

    // 512 calls of one sort, each with the answer of its place.
    private static void sameCallThroughout() {
        SteamBends pieces = new SteamBends();
        for (int i = 1; i <= CALLS / 2; i++) {
            Check.due("piece", 1, () -> pieces.piece(3, 2));
            pieces.clear();
        }
        SteamBends full = new SteamBends();
        for (int i = 1; i <= CALLS; i++) {
            int n = i;
            if (n <= 12) {
                Check.due("row " + n, n, () -> full.table(1, n, 5));
            } else {
                Check.dueThrow("row " + n, Check.STATE, () -> full.table(1, 12.5, 5));
            }
        }
        SteamBends readings = new SteamBends();
        for (int i = 1; i <= CALLS; i++) {
            int n = i;
            if (n <= 20) {
                Check.due("reading " + n, n, () -> readings.read(1, 5, 5));
            } else {
                Check.dueThrow("reading " + n, Check.STATE, () -> readings.read(1, 5, 5));
            }
        }
        SteamBends shape = new SteamBends();
        for (int i = 1; i <= CALLS; i++) {
            int n = i;
            if (n <= 12) {
                Check.due("piece " + n, n, () -> shape.piece(5, 5));
            } else {
                Check.dueThrow("piece " + n, Check.STATE, () -> shape.piece(5, 5));
            }
        }
        SteamBends fitted = new SteamBends();
        fitted.read(2, 0.125, 100000);
        for (int i = 2; i < CALLS; i++) {
            Check.due("rounds", 100, () -> fitted.fit(2, 100));
        }
        Check.due("51000 rounds", 0.25 + 0.25 * 51000, () -> fitted.back(2, 0));
        SteamBends halved = new SteamBends();
        for (int i = 1; i < CALLS; i++) {
            Check.due("halved", 0, () -> halved.fit(2, 100));
        }
        Check.due("nothing is left", 0, () -> halved.back(2, 1));
        SteamBends kerfs = new SteamBends();
        for (int i = 1; i <= CALLS / 2; i++) {
            double angle = 1 + i;
            double closes = 2 / (20.0 - 3) * 57.29577951308232;
            double count = Math.ceil(angle / closes);
            Check.due("kerfs of " + angle, count, () -> kerfs.kerfs(angle, 20, 3, 2));
            Check.due("their rest", count * closes - angle, () -> kerfs.rest());
        }
    }
}
