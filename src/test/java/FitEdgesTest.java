/** Promise 6: each edge that is told of fit, from both sides. */
public final class FitEdgesTest {
    public static void main(String[] args) {
        roundsRange();
        roundsAreRounds();
        lessWithMore();
        lessWithLess();
        notBelowZero();
        firstOfBoth();
        keptStepStays();
        halvedToNothing();
        Check.end();
    }

    // "rounds are not 0 .. 100"
    private static void roundsRange() {
        Edges.takenWhole("rounds, none kept", 0, 100, Twins.WITH_ROOM, (x, rounds) -> x.fit(3, rounds), rounds -> 0);
        Edges.takenWhole("rounds, all kept", 0, 100, Twins.WITHOUT_ALL,
                (x, rounds) -> x.read(3, 0.125, 100000) * x.fit(3, rounds), rounds -> rounds);
        for (int kind = 0; kind < 4; kind++) {
            int of = kind;
            Edges.refusedWhole("rounds", 0, 100, Check.ARGUMENT, Twins.ANY, (x, rounds) -> x.fit(of, rounds));
            Twins.onlyAnswers("0 rounds", 0, Twins.ANY, x -> x.fit(of, 0));
        }
        Twins.refused("200 rounds", Check.ARGUMENT, Twins.ANY, x -> x.fit(0, 200));
        Twins.refused("256 rounds", Check.ARGUMENT, Twins.ANY, x -> x.fit(0, 256));
    }

    // "So many rounds": one call of n is n calls of one, also for 99, 100 and for more than 100 in all.
    private static void roundsAreRounds() {
        for (int rounds : new int[] {1, 2, 99, 100}) {
            SteamBends x = Twins.Past.USED.begin();
            SteamBends twin = Twins.Past.USED.begin();
            int kept = 0;
            for (int i = 0; i < rounds; i++) {
                kept += x.fit(0, 1);
            }
            Check.due("kept of " + rounds, kept, () -> twin.fit(0, rounds));
            for (int what = 0; what < 3; what++) {
                int of = what;
                Check.due("back " + of + " after " + rounds, x.back(0, of), () -> twin.back(0, of));
            }
        }
        SteamBends x = new SteamBends();
        x.read(1, 0.125, 100000);
        for (int i = 1; i <= 3; i++) {
            Check.due("all of 100 are kept", 100, () -> x.fit(1, 100));
            double spring = 0.25 + 25 * i;
            Check.due("spring", spring, () -> x.back(1, 0));
        }
    }

    // "the RESIDUE with s + h ... less than that with s": with 11 kept of 8 both are the same.
    private static void lessWithMore() {
        round("the same residue with more", 8, 11, 0, 0.25, 0.125);
        round("a bit less with more", 8, Math.nextUp(11.0), 1, 0.5, 0.25);
        round("a bit more with more", 8, Math.nextDown(11.0), 0, 0.25, 0.125);
        round("much less with more", 8, 12, 1, 0.5, 0.25);
    }

    // "then that with s - h ... less than that with s": with 9 kept of 8 both are the same.
    private static void lessWithLess() {
        round("the same residue with less", 8, 9, 0, 0.25, 0.125);
        round("a bit less with less", 8, Math.nextDown(9.0), 1, 0, 0.25);
        round("a bit more with less", 8, Math.nextUp(9.0), 0, 0.25, 0.125);
        round("neither", 8, 10, 0, 0.25, 0.125);
    }

    // "if that is not below 0": 0 itself is taken, and nothing below it.
    private static void notBelowZero() {
        round("s - h is 0", 8, 8, 1, 0, 0.25);
        SteamBends x = new SteamBends();
        x.read(2, 8, 8);
        x.fit(2, 1);
        for (int i = 1; i <= 30; i++) {
            Check.due("below 0", 0, () -> x.fit(2, 1));
            Check.due("the spring stays 0", 0, () -> x.back(2, 0));
            double step = Math.scalb(0.25, -i);
            Check.due("the step is halved", step, () -> x.back(2, 1));
        }
        // From 0 on it goes up again, if more readings ask for it.
        for (int i = 0; i < 19; i++) {
            x.read(2, 8, 10);
        }
        Check.due("up again", 5, () -> x.fit(2, 5));
        Check.due("by five steps", 5 * Math.scalb(0.25, -30), () -> x.back(2, 0));
        // Down to 0 by smaller steps: 8.5 is kept of 8, so that 1/16 is best.
        SteamBends y = new SteamBends();
        y.read(0, 8, 8.5);
        Check.due("to 0 first", 1, () -> y.fit(0, 1));
        Check.due("spring 0", 0, () -> y.back(0, 0));
        Check.due("1/4 and 1/8 are not less", 0, () -> y.fit(0, 2));
        Check.due("1/16 is", 1, () -> y.fit(0, 1));
        Check.due("spring 1/16", 0.0625, () -> y.back(0, 0));
        Check.due("nothing is left", 0, () -> y.back(0, 2));
        Check.due("nothing is less than 0", 0, () -> y.fit(0, 7));
        Check.due("and spring stays", 0.0625, () -> y.back(0, 0));
    }

    // "the first of both that is less": in round 41 of these readings both are, by lost bits.
    private static void firstOfBoth() {
        SteamBends x = new SteamBends();
        x.read(3, 12, 12);
        x.read(3, 2, 2);
        x.read(3, 6, 12.75);
        x.fit(3, 40);
        double spring = 0.22010869532823563;
        double step = 9.313225746154785E-10;
        Check.due("spring before", spring, () -> x.back(3, 0));
        Check.due("step before", step, () -> x.back(3, 1));
        Check.due("round 41", 1, () -> x.fit(3, 1));
        Check.due("more was taken", spring + step, () -> x.back(3, 0));
        Check.due("the step stays", step, () -> x.back(3, 1));
        // In round 40 of these both are less, and s - h is even the least: the first is taken.
        SteamBends y = new SteamBends();
        y.read(2, 6, 13.25);
        y.read(2, 20, 29.5);
        y.read(2, 16, 20.75);
        y.read(2, 6, 7.25);
        y.fit(2, 39);
        Check.due("spring before", 0.4354395605623722, () -> y.back(2, 0));
        Check.due("step before", step, () -> y.back(2, 1));
        Check.due("round 40", 1, () -> y.fit(2, 1));
        Check.due("more was taken", 0.4354395605623722 + step, () -> y.back(2, 0));
    }

    // "(a KEPT round), and h stays; else h becomes h / 2"
    private static void keptStepStays() {
        SteamBends x = new SteamBends();
        x.read(1, 8, 15);
        int[] kept = {1, 1, 0, 1, 0, 0};
        double[] spring = {0.5, 0.75, 0.75, 0.875, 0.875, 0.875};
        double[] step = {0.25, 0.25, 0.125, 0.125, 0.0625, 0.03125};
        for (int i = 0; i < kept.length; i++) {
            int n = i;
            Check.due("round " + n, kept[n], () -> x.fit(1, 1));
            Check.due("spring", spring[n], () -> x.back(1, 0));
            Check.due("step", step[n], () -> x.back(1, 1));
        }
    }

    // The step may be halved until nothing is left of it, and even then a round ends.
    private static void halvedToNothing() {
        SteamBends x = new SteamBends();
        for (int i = 0; i < 10; i++) {
            x.fit(0, 100);
        }
        x.fit(0, 72);
        Check.due("the last but one", Double.MIN_VALUE, () -> x.back(0, 1));
        Check.due("one more round", 0, () -> x.fit(0, 1));
        Check.due("nothing is left", 0, () -> x.back(0, 1));
        x.read(0, 8, 12);
        Check.due("no step, no round is kept", 0, () -> x.fit(0, 100));
        Check.due("the spring stays", 0.25, () -> x.back(0, 0));
        Check.due("nothing is left", 0, () -> x.back(0, 1));
    }

    private static void round(String name, double bent, double keeps, int kept, double spring, double step) {
        SteamBends x = new SteamBends();
        x.read(2, bent, keeps);
        Check.due(name + ": kept", kept, () -> x.fit(2, 1));
        Check.due(name + ": spring", spring, () -> x.back(2, 0));
        Check.due(name + ": step", step, () -> x.back(2, 1));
    }
}
