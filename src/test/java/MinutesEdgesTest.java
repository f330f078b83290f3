/** Promise 9: each edge that is told of minutes, from both sides. */
public final class MinutesEdgesTest {
    public static void main(String[] args) {
        thickRange();
        aboveFifty();
        Check.end();
    }

    // "thick is not 0 .. 1000"
    private static void thickRange() {
        Edges.taken("thick", 0, 1000, Twins.ANY, (x, thick) -> x.minutes(thick),
                thick -> thick > 50 ? thick * 2.5 + 20 : thick * 2.5);
        Edges.refused("thick", 0, 1000, Twins.ANY, (x, thick) -> x.minutes(thick));
        Twins.onlyAnswers("0", 0, Twins.ANY, x -> x.minutes(0));
        Twins.onlyAnswers("-0", 0, Twins.ANY, x -> x.minutes(-0.0));
        Twins.onlyAnswers("1000", 2520, Twins.ANY, x -> x.minutes(1000));
    }

    // "and 20 more, if thick is above 50"
    private static void aboveFifty() {
        Twins.onlyAnswers("50", 125, Twins.ANY, x -> x.minutes(50));
        Twins.onlyAnswers("below 50", Math.nextDown(50.0) * 2.5, Twins.ANY, x -> x.minutes(Math.nextDown(50.0)));
        Twins.onlyAnswers("above 50", Math.nextUp(50.0) * 2.5 + 20, Twins.ANY, x -> x.minutes(Math.nextUp(50.0)));
        Twins.onlyAnswers("49", 122.5, Twins.ANY, x -> x.minutes(49));
        Twins.onlyAnswers("51", 147.5, Twins.ANY, x -> x.minutes(51));
        Twins.onlyAnswers("50.4", 146, Twins.ANY, x -> x.minutes(50.4));
    }
}
