/** Promise 13: each edge that is told of kerfs, from both sides. */
public final class KerfsEdgesTest {
    public static void main(String[] args) {
        angleRange();
        thickRange();
        staysRange();
        sawRange();
        leastCount();
        mostCount();
        refusedBehindOthers();
        Check.end();
    }

    // "angle is not 1 .. 360"
    private static void angleRange() {
        Edges.taken("angle", 1, 360, Twins.ANY, (x, angle) -> x.kerfs(angle, 20, 3, 2),
                angle -> counted(angle, 20, 3, 2));
        Edges.refused("angle", 1, 360, Twins.ANY, (x, angle) -> x.kerfs(angle, 20, 3, 2));
        Twins.refused("angle 0", Check.ARGUMENT, Twins.ANY, x -> x.kerfs(0, 20, 3, 2));
        Twins.refused("angle 0.5", Check.ARGUMENT, Twins.ANY, x -> x.kerfs(0.5, 20, 3, 2));
    }

    // "thick not 1 .. 1000"
    private static void thickRange() {
        Edges.taken("thick", 1, 1000, Twins.ANY, (x, thick) -> x.kerfs(90, thick, 0.5, 2),
                thick -> counted(90, thick, 0.5, 2));
        Edges.refused("thick", 1, 1000, Twins.ANY, (x, thick) -> x.kerfs(90, thick, 0.125, 2));
        Twins.refused("thick 0", Check.ARGUMENT, Twins.ANY, x -> x.kerfs(90, 0, 0.125, 2));
        Twins.refused("thick 0.5", Check.ARGUMENT, Twins.ANY, x -> x.kerfs(90, 0.5, 0.125, 2));
        Twins.refused("thick -0.5", Check.ARGUMENT, Twins.ANY, x -> x.kerfs(90, -0.5, 0.125, 2));
    }

    // "stays not 0.125 .. thick (thick not itself)"
    private static void staysRange() {
        for (double thick : new double[] {1, 1.1, 20, 999.9, 1000}) {
            double most = Math.nextDown(thick);
            Edges.taken("stays of " + thick, 0.125, most, Twins.ANY, (x, stays) -> x.kerfs(90, thick, stays, 2),
                    stays -> counted(90, thick, stays, 2));
            Edges.refused("stays of " + thick, 0.125, most, Twins.ANY, (x, stays) -> x.kerfs(90, thick, stays, 2));
            Twins.refused("all of " + thick, Check.ARGUMENT, Twins.ANY, x -> x.kerfs(90, thick, thick, 2));
            Twins.refused("more than " + thick, Check.ARGUMENT, Twins.ANY,
                    x -> x.kerfs(90, thick, Math.nextUp(thick), 2));
            Twins.refused("nothing of " + thick, Check.ARGUMENT, Twins.ANY, x -> x.kerfs(90, thick, 0, 2));
        }
    }

    // "or saw not 0.125 .. 100"
    private static void sawRange() {
        Edges.taken("saw", 0.125, 100, Twins.ANY, (x, saw) -> x.kerfs(90, 20, 3, saw),
                saw -> counted(90, 20, 3, saw));
        Edges.refused("saw", 0.125, 100, Twins.ANY, (x, saw) -> x.kerfs(90, 20, 3, saw));
        Twins.refused("saw 0", Check.ARGUMENT, Twins.ANY, x -> x.kerfs(90, 20, 3, 0));
        Twins.refused("saw -0", Check.ARGUMENT, Twins.ANY, x -> x.kerfs(90, 20, 3, -0.0));
        Twins.refused("saw -2", Check.ARGUMENT, Twins.ANY, x -> x.kerfs(90, 20, 3, -2));
    }

    // "the least count (1, 2, ..) with count * ANGLE not below the angle"
    private static void leastCount() {
        // Of 2 thick, 1 stays, and a saw of 1/8 closes by 1/8 of a radian.
        double closes = 0.125 / (2.0 - 1) * 57.29577951308232;
        for (int i = 1; i <= 50; i++) {
            int count = i;
            double angle = count * closes;
            if (angle <= 360) {
                SteamBends x = new SteamBends();
                Check.due("just " + count, count, () -> x.kerfs(angle, 2, 1, 0.125));
                Check.due("no rest", 0, () -> x.rest());
                double above = Math.nextUp(angle);
                Check.due("a bit more than " + count, count + 1, () -> x.kerfs(above, 2, 1, 0.125));
                Check.due("a rest of nearly one", (count + 1) * closes - above, () -> x.rest());
                double below = Math.nextDown(angle);
                Check.due("a bit less than " + count, count, () -> x.kerfs(below, 2, 1, 0.125));
                Check.due("a rest of a bit", count * closes - below, () -> x.rest());
            }
        }
        // Divided first, then times 57.29..: in another order this ANGLE would be another.
        double lost = 0.2 / (3.7 - 0.3) * 57.29577951308232;
        for (int i = 1; i <= 100; i++) {
            int count = i;
            double angle = count * lost;
            SteamBends x = new SteamBends();
            Check.due("just " + count, count, () -> x.kerfs(angle, 3.7, 0.3, 0.2));
            Check.due("no rest", 0, () -> x.rest());
            Check.due("a bit more than " + count, count + 1, () -> x.kerfs(Math.nextUp(angle), 3.7, 0.3, 0.2));
        }
        SteamBends x = new SteamBends();
        Check.due("1 for the least angle", 1, () -> x.kerfs(1, 1, Math.nextDown(1.0), 100));
        Check.due("1 for the most", 1, () -> x.kerfs(360, 1, Math.nextDown(1.0), 100));
        Check.due("1 at the least saw", 1, () -> x.kerfs(1, 2, 1, 0.125));
    }

    private static void mostCount() {
        SteamBends x = new SteamBends();
        Check.due("the most of all", 50260, () -> x.kerfs(360, 1000, 0.125, 0.125));
        Check.due("a bit less", 50260, () -> x.kerfs(Math.nextDown(360.0), 1000, 0.125, 0.125));
        Check.due("a wider saw", counted(360, 1000, 0.125, Math.nextUp(0.125)),
                () -> x.kerfs(360, 1000, 0.125, Math.nextUp(0.125)));
        // Where halved steps begin and end.
        double closes = 0.125 / (1000 - 0.125) * 57.29577951308232;
        for (int count : new int[] {255, 256, 257, 32767, 32768, 32769, 50259}) {
            double angle = count * closes;
            Check.due("just " + count, count, () -> x.kerfs(angle, 1000, 0.125, 0.125));
            Check.due("a bit more than " + count, count + 1, () -> x.kerfs(Math.nextUp(angle), 1000, 0.125, 0.125));
            Check.due("a bit less than " + count, count, () -> x.kerfs(Math.nextDown(angle), 1000, 0.125, 0.125));
        }
    }

    // Refused kerfs are no latest ones, neither behind none nor behind others.
    private static void refusedBehindOthers() {
        for (double[] wrong : new double[][] {
            {Math.nextDown(1.0), 20, 3, 2}, {Math.nextUp(360.0), 20, 3, 2}, {90, Math.nextUp(1000.0), 3, 2},
            {90, Math.nextDown(1.0), 0.5, 2}, {90, 20, 20, 2}, {90, 20, Math.nextDown(0.125), 2},
            {90, 20, 3, Math.nextDown(0.125)}, {90, 20, 3, Math.nextUp(100.0)}}) {
            SteamBends x = new SteamBends();
            Check.dueThrow("refused", Check.ARGUMENT, () -> x.kerfs(wrong[0], wrong[1], wrong[2], wrong[3]));
            Check.dueThrow("still no rest", Check.STATE, () -> x.rest());
            Check.dueThrow("still no kerf", Check.STATE, () -> x.kerfAt(0, 100));
            x.kerfs(90, 20, 3, 2);
            Check.dueThrow("refused", Check.ARGUMENT, () -> x.kerfs(wrong[0], wrong[1], wrong[2], wrong[3]));
            Check.due("still that rest", 4.36951919801794, () -> x.rest());
            Check.due("still that last kerf", 96.42857142857143, () -> x.kerfAt(13, 100));
            Check.dueThrow("still no more", Check.INDEX, () -> x.kerfAt(14, 100));
        }
    }

    private static int counted(double angle, double thick, double stays, double saw) {
        double closes = saw / (thick - stays) * 57.29577951308232;
        int count = 1;
        while (count * closes < angle) {
            count++;
        }
        return count;
    }
}
