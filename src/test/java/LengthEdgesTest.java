/** Promise 12: each edge that is told of length, from both sides. */
public final class LengthEdgesTest {
    public static void main(String[] args) {
        thickRange();
        twiceTheLeastRadius();
        leastOfMany();
        straightOnesDoNotCount();
        noneCount();
        thousandAndRadius();
        onlyAsked();
        Check.end();
    }

    // "thick is not 0 .. 1000"
    private static void thickRange() {
        for (boolean outside : new boolean[] {false, true}) {
            Edges.taken("thick without pieces", 0, 1000, Twins.WITHOUT_ALL, (x, thick) -> x.length(outside, thick),
                    thick -> 0);
            Edges.taken("thick with a large radius", 0, 1000, Twins.WITHOUT_ALL,
                    (x, thick) -> x.piece(16, 1024) * x.length(outside, thick),
                    thick -> 16 * (outside ? 1024 + thick / 2 : 1024 - thick / 2) / 1024);
            Edges.refused("thick", 0, 1000, Twins.ANY, (x, thick) -> x.length(outside, thick));
            SteamBends x = new SteamBends();
            x.piece(16, 1024);
            Check.due("-0 is 0", 16, () -> x.length(outside, -0.0));
        }
    }

    // "or above twice the least radius that is not 0"
    private static void twiceTheLeastRadius() {
        for (double radius : new double[] {1, Math.nextUp(1.0), 1.1, 7.3, 333.3, 499.9, Math.nextDown(500.0)}) {
            double twice = 2 * radius;
            for (boolean outside : new boolean[] {false, true}) {
                SteamBends x = new SteamBends();
                SteamBends twin = new SteamBends();
                x.piece(6, radius);
                twin.piece(6, radius);
                Check.due("twice " + radius, outside ? 6 * (radius + radius) / radius : 0,
                        () -> x.length(outside, twice));
                double below = Math.nextDown(twice);
                Check.due("just below twice " + radius,
                        6 * (outside ? radius + below / 2 : radius - below / 2) / radius,
                        () -> x.length(outside, below));
                Check.dueThrow("just above twice " + radius, Check.ARGUMENT,
                        () -> x.length(outside, Math.nextUp(twice)));
                Check.dueThrow("far above twice " + radius, Check.ARGUMENT, () -> x.length(outside, 1000));
                Twins.same("refused above twice " + radius, x, twin);
            }
        }
    }

    // "the least radius": wherever it stands, also behind straight ones and without a length.
    private static void leastOfMany() {
        for (int i = 0; i < 12; i++) {
            SteamBends x = new SteamBends();
            for (int j = 0; j < 12; j++) {
                x.piece(j == i ? 0 : 1, j == i ? 2 : j % 3 == 0 ? 0 : 4);
            }
            int place = i;
            Check.due("all but the one without a length, " + place, 11, () -> x.length(false, 0));
            Check.holds("twice the least at " + place, x.length(true, 4) > 11 && x.length(false, 4) < 11);
            Check.dueThrow("above twice the least at " + place, Check.ARGUMENT,
                    () -> x.length(false, Math.nextUp(4.0)));
            Check.dueThrow("between both radii, at " + place, Check.ARGUMENT, () -> x.length(true, 6));
        }
    }

    // "that is not 0": straight ones refuse nothing.
    private static void straightOnesDoNotCount() {
        SteamBends x = new SteamBends();
        x.piece(5, 0);
        Check.due("one straight one, 1000", 5, () -> x.length(false, 1000));
        Check.dueThrow("and no more", Check.ARGUMENT, () -> x.length(false, Math.nextUp(1000.0)));
        x.piece(6, 3);
        Check.due("twice the other's", 5, () -> x.length(false, 6));
        Check.dueThrow("above twice the other's", Check.ARGUMENT, () -> x.length(false, Math.nextUp(6.0)));
        x.piece(7, 0);
        Check.due("a straight one behind it", 12, () -> x.length(false, 6));
        Check.due("outside", 24, () -> x.length(true, 6));
        Check.dueThrow("still above", Check.ARGUMENT, () -> x.length(true, Math.nextUp(6.0)));
    }

    private static void noneCount() {
        SteamBends x = new SteamBends();
        x.piece(6, 1);
        Check.dueThrow("while it is there", Check.ARGUMENT, () -> x.length(true, 2.125));
        x.clear();
        Check.due("when it is not", 0, () -> x.length(true, 2.125));
        Check.due("not at all", 0, () -> x.length(true, 1000));
        x.piece(6, 2);
        Check.due("twice the later one's", 12, () -> x.length(true, 4));
        Check.dueThrow("above twice the later one's", Check.ARGUMENT, () -> x.length(true, Math.nextUp(4.0)));
    }

    // Where 1000 and twice the radius meet: at 500 both say the same.
    private static void thousandAndRadius() {
        SteamBends x = new SteamBends();
        x.piece(6, 500);
        Check.due("1000 at 500", 0, () -> x.length(false, 1000));
        Check.dueThrow("above 1000 at 500", Check.ARGUMENT, () -> x.length(false, Math.nextUp(1000.0)));
        SteamBends y = new SteamBends();
        y.piece(6, Math.nextUp(500.0));
        Check.due("1000 above 500", 6 * (Math.nextUp(500.0) - 500) / Math.nextUp(500.0), () -> y.length(false, 1000));
        Check.dueThrow("above 1000 above 500", Check.ARGUMENT, () -> y.length(false, Math.nextUp(1000.0)));
        SteamBends z = new SteamBends();
        z.piece(6, Math.nextDown(500.0));
        Check.dueThrow("1000 below 500", Check.ARGUMENT, () -> z.length(false, 1000));
        Check.due("just below 1000 below 500", 0, () -> z.length(false, Math.nextDown(1000.0)));
    }

    private static void onlyAsked() {
        for (boolean outside : new boolean[] {false, true}) {
            for (Twins.Past past : Twins.ANY) {
                for (double thick : new double[] {0, 1, 289, 300}) {
                    double due = past.begin().length(outside, thick);
                    Twins.onlyAnswers("length", due, new Twins.Past[] {past}, x -> x.length(outside, thick));
                }
            }
        }
        for (boolean outside : new boolean[] {false, true}) {
            Twins.refused("above twice 150", Check.ARGUMENT, new Twins.Past[] {Twins.Past.USED},
                    x -> x.length(outside, Math.nextUp(300.0)));
            Twins.refused("above twice 289", Check.ARGUMENT, Twins.WITH_ALL,
                    x -> x.length(outside, Math.nextUp(578.0)));
        }
    }
}
