/** Promise 6: fit. */
public final class FitTest {
    public static void main(String[] args) {
        withoutReadings();
        roundByRound();
        manyRoundsAtOnce();
        stepStaysWhenKept();
        springOfZero();
        wrongNumbers();
        Check.end();
    }

    private static void withoutReadings() {
        SteamBends x = new SteamBends();
        Check.due("nothing is less than 0", 0, () -> x.fit(0, 3));
        Check.due("spring", 0.25, () -> x.back(0, 0));
        Check.due("step", 0.03125, () -> x.back(0, 1));
        for (int i = 0; i < 20; i++) {
            Check.due("many halvings", 0, () -> x.fit(0, 100));
        }
        Check.due("the step vanishes", 0, () -> x.back(0, 1));
        Check.due("and nothing else", 0.25, () -> x.back(0, 0));
    }

    private static void roundByRound() {
        SteamBends x = readings();
        double[][] due = {
            {0, 0.25, 0.125, 903.8125}, {1, 0.125, 0.125, 56.453125}, {0, 0.125, 0.0625, 56.453125},
            {0, 0.125, 0.03125, 56.453125}, {1, 0.15625, 0.03125, 4.1845703125}};
        for (double[] row : due) {
            Check.due("kept", row[0], () -> x.fit(3, 1));
            Check.due("spring", row[1], () -> x.back(3, 0));
            Check.due("step", row[2], () -> x.back(3, 1));
            Check.due("residue", row[3], () -> x.back(3, 2));
        }
        Check.due("the other kinds stay", 0.25, () -> x.back(2, 1));
    }

    private static void manyRoundsAtOnce() {
        SteamBends x = readings();
        Check.due("kept of 0", 0, () -> x.fit(3, 0));
        Check.due("0 rounds change nothing", 0.25, () -> x.back(3, 1));
        Check.due("kept of 30", 8, () -> x.fit(3, 30));
        Check.due("spring", 0.1499018669128418, () -> x.back(3, 0));
        Check.due("step", 5.960464477539063e-08, () -> x.back(3, 1));
        Check.due("kept of 70 more", 7, () -> x.fit(3, 70));
        Check.due("spring", 0.1499018292015606, () -> x.back(3, 0));
        Check.due("step", 6.462348535570529e-27, () -> x.back(3, 1));
        Check.due("residue", 0.5516311883659258, () -> x.back(3, 2));
    }

    private static void stepStaysWhenKept() {
        SteamBends x = new SteamBends();
        x.read(0, 0.125, 100000);
        Check.due("all are kept", 100, () -> x.fit(0, 100));
        Check.due("spring", 25.25, () -> x.back(0, 0));
        Check.due("step", 0.25, () -> x.back(0, 1));
        // Between these two the residue is the same on both sides of the midst: the first is not left.
        x.read(1, 8, 30);
        x.read(1, 8, 30.5);
        Check.due("kept", 9, () -> x.fit(1, 9));
        Check.due("kept to the midst", 1, () -> x.fit(1, 4));
        Check.due("spring", 2.75, () -> x.back(1, 0));
        Check.due("kept in the end", 1, () -> x.fit(1, 87));
        Check.due("spring", 2.78125, () -> x.back(1, 0));
    }

    private static void springOfZero() {
        SteamBends x = new SteamBends();
        x.read(0, 5, 5);
        x.read(0, 6, 6);
        Check.due("down to 0", 1, () -> x.fit(0, 1));
        Check.due("spring", 0, () -> x.back(0, 0));
        Check.due("not below 0", 0, () -> x.fit(0, 50));
        Check.due("spring", 0, () -> x.back(0, 0));
        Check.due("step", 2.220446049250313E-16, () -> x.back(0, 1));
    }

    private static void wrongNumbers() {
        SteamBends x = readings();
        for (int kind : Check.NO_KINDS) {
            Check.dueThrow("fit of kind " + kind, Check.INDEX, () -> x.fit(kind, 1));
            Check.dueThrow("the kind comes first", Check.INDEX, () -> x.fit(kind, -1));
        }
        for (int rounds : new int[] {-1, 101, Integer.MIN_VALUE, Integer.MAX_VALUE}) {
            Check.dueThrow("rounds " + rounds, Check.ARGUMENT, () -> x.fit(3, rounds));
        }
        Check.due("nothing was fitted", 0.25, () -> x.back(3, 1));
        Check.due("100 rounds", 15, () -> x.fit(3, 100));
    }

    private static SteamBends readings() {
        SteamBends x = new SteamBends();
        x.read(3, 10, 11);
        x.read(3, 7, 7.5);
        x.read(3, 300, 345);
        return x;
    }
}
