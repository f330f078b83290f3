/**
 * All promises: runs of 512 calls each, the same for the class and for the model beside it, by
 * numbers from a fixed row; every answer and every exception must be the model's.
 */
public final class LongRunsTest {
    private static final int RUNS = 600;
    private static final int CALLS = 512;
    private static final double[] EDGES = {
        0, -0.0, 0.125, 1, 50, 360, 100, 1000, 10000, 100000, Double.MIN_VALUE, -1, Double.NaN,
        Double.POSITIVE_INFINITY, Double.NEGATIVE_INFINITY, Double.MAX_VALUE, Math.nextDown(0.125),
        Math.nextUp(50.0), Math.nextUp(1000.0), Math.nextUp(10000.0), Math.nextUp(100000.0)
    };
    private static final int[] INT_EDGES = {
        -1, 0, 1, 3, 4, 12, 20, 100, 101, 10000, 10001, 1000000, 1000001, Integer.MIN_VALUE, Integer.MAX_VALUE
    };

    private long state;
    private SteamBends real;
    private Model model;
    private double thickest;

    public static void main(String[] args) {
        LongRunsTest test = new LongRunsTest();
        for (int run = 1; run <= RUNS; run++) {
            test.run(run);
        }
        Check.end();
    }

    private void run(int number) {
        state = number * 0x9E3779B97F4A7C15L;
        real = new SteamBends();
        model = new Model();
        thickest = 0;
        for (int call = 1; call <= CALLS; call++) {
            step("run " + number + ", call " + call + ": ");
        }
    }

    private void step(String name) {
        switch (next(17)) {
            case 0 -> {
                int kind = kind();
                thickest = next(8) == 0 ? 0 : thickest + next(40) / 8.0;
                double thick = number(thickest);
                double radius = number(1 + next(80000) / 8.0);
                same(name + "table", () -> real.table(kind, thick, radius), () -> model.table(kind, thick, radius));
            }
            case 1 -> {
                int kind = kind();
                double thick = number(next(400) / 8.0);
                same(name + "radius", () -> real.radius(kind, thick), () -> model.radius(kind, thick));
            }
            case 2 -> {
                int kind = kind();
                double thick = number(next(3000) / 8.0);
                double radius = number(next(80000) / 8.0);
                same(name + "strips", () -> real.strips(kind, thick, radius),
                        () -> model.strips(kind, thick, radius));
            }
            case 3 -> {
                int kind = kind();
                double bent = number(next(900) / 7.0);
                double kept = number(bent + bent * next(100) / 70.0);
                same(name + "read", () -> real.read(kind, bent, kept), () -> model.read(kind, bent, kept));
            }
            case 4 -> {
                int kind = kind();
                int rounds = integer(next(12));
                same(name + "fit", () -> real.fit(kind, rounds), () -> model.fit(kind, rounds));
            }
            case 5 -> {
                int kind = kind();
                int what = integer(next(3));
                same(name + "back", () -> real.back(kind, what), () -> model.back(kind, what));
            }
            case 6 -> {
                int kind = kind();
                double wanted = number(next(90000) / 7.0);
                same(name + "form", () -> real.form(kind, wanted), () -> model.form(kind, wanted));
            }
            case 7 -> {
                double thick = number(next(8001) / 8.0);
                same(name + "minutes", () -> real.minutes(thick), () -> model.minutes(thick));
            }
            default -> stepOfShapesAndKerfs(name);
        }
    }

    private void stepOfShapesAndKerfs(String name) {
        switch (next(8)) {
            case 0 -> {
                double length = number(next(9000) / 7.0);
                double radius = number(next(4) == 0 ? 0 : next(9000) / 7.0);
                same(name + "piece", () -> real.piece(length, radius), () -> model.piece(length, radius));
            }
            case 1 -> {
                if (next(6) == 0) {
                    real.clear();
                    model.clear();
                }
            }
            case 2 -> {
                boolean outside = next(2) == 0;
                double thick = number(next(100) / 7.0);
                same(name + "length", () -> real.length(outside, thick), () -> model.length(outside, thick));
            }
            case 3 -> {
                double angle = number(1 + next(2520) / 7.0);
                double thick = number(1 + next(6000) / 7.0);
                double stays = number(thick * next(100) / 99.0);
                double saw = number(next(70) / 7.0);
                same(name + "kerfs", () -> real.kerfs(angle, thick, stays, saw),
                        () -> model.kerfs(angle, thick, stays, saw));
            }
            case 4 -> {
                int k = integer(next(200));
                double length = number(next(70000) / 7.0);
                same(name + "kerfAt", () -> real.kerfAt(k, length), () -> model.kerfAt(k, length));
            }
            case 5 -> same(name + "rest", () -> real.rest(), () -> model.rest());
            case 6 -> {
                int n = integer(next(3) == 0 ? next(1000001) : next(60));
                int bad = integer(next(Math.max(1, Math.min(n, 1000000)) + 1));
                int part = integer(next(4));
                same(name + "broken", () -> real.broken(n, bad, part), () -> model.broken(n, bad, part));
            }
            default -> {
                int kind = kind();
                int days = integer(next(3000));
                same(name + "relaxed", () -> real.relaxed(kind, days), () -> model.relaxed(kind, days));
            }
        }
    }

    private static void same(String name, Check.Call real, Check.Call model) {
        double due;
        try {
            due = model.answer();
        } catch (RuntimeException e) {
            Check.dueThrow(name, e.getClass(), real);
            return;
        }
        Check.holds(name + " is due NaN", due == due);
        Check.due(name, due, real);
    }

    private int kind() {
        return next(40) == 0 ? integer(-1) : next(4);
    }

    private double number(double usual) {
        return next(20) == 0 ? EDGES[next(EDGES.length)] : usual;
    }

    private int integer(int usual) {
        return next(20) == 0 ? INT_EDGES[next(INT_EDGES.length)] : usual;
    }

    private int next(int bound) {
        state = state * 6364136223846793005L + 1442695040888963407L;
        return (int) Long.remainderUnsigned(state >>> 33, bound);
    }
}
