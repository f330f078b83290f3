import java.math.BigInteger;
import java.util.ArrayList;
import java.util.List;

/** The document once more, written without a thought for speed or room, to compare the class with. */
final class Model {
    private final List<List<double[]>> rows = new ArrayList<>();
    private final List<List<double[]>> readings = new ArrayList<>();
    private final double[] spring = {0.25, 0.25, 0.25, 0.25};
    private final double[] step = {0.25, 0.25, 0.25, 0.25};
    private final List<double[]> pieces = new ArrayList<>();
    private int count = 0;
    private double closes = 0;
    private double turned = 0;

    Model() {
        for (int i = 0; i < 4; i++) {
            rows.add(new ArrayList<>());
            readings.add(new ArrayList<>());
        }
    }

    private static void index(boolean isFine) {
        if (!isFine) {
            throw new IndexOutOfBoundsException();
        }
    }

    private static void argument(boolean isFine) {
        if (!isFine) {
            throw new IllegalArgumentException();
        }
    }

    private static void state(boolean isFine) {
        if (!isFine) {
            throw new IllegalStateException();
        }
    }

    private static boolean in(double least, double x, double most) {
        return least <= x && x <= most;
    }

    int table(int kind, double thick, double radius) {
        index(in(0, kind, 3));
        argument(in(0.125, thick, 1000) && in(0.125, radius, 10000));
        List<double[]> those = rows.get(kind);
        argument(those.stream().allMatch(row -> row[0] < thick));
        state(those.size() < 12);
        those.add(new double[] {thick, radius});
        return those.size();
    }

    private Double find(int kind, double thick) {
        List<double[]> those = rows.get(kind);
        for (double[] row : those) {
            if (row[0] == thick) {
                return row[1];
            }
        }
        for (int i = 0; i + 1 < those.size(); i++) {
            double t0 = those.get(i)[0];
            double r0 = those.get(i)[1];
            double t1 = those.get(i + 1)[0];
            double r1 = those.get(i + 1)[1];
            if (t0 < thick && thick < t1) {
                return r0 + (thick - t0) * (r1 - r0) / (t1 - t0);
            }
        }
        return null;
    }

    double radius(int kind, double thick) {
        index(in(0, kind, 3));
        argument(in(0, thick, 1000));
        Double found = find(kind, thick);
        state(found != null);
        return found;
    }

    int strips(int kind, double thick, double radius) {
        index(in(0, kind, 3));
        argument(in(0.125, thick, 10000) && in(0.125, radius, 10000));
        for (int n = 1; n <= 100; n++) {
            Double found = find(kind, thick / n);
            if (found != null && found <= radius) {
                return n;
            }
        }
        return -1;
    }

    int read(int kind, double bent, double kept) {
        index(in(0, kind, 3));
        argument(in(0.125, bent, 10000) && in(bent, kept, 100000));
        state(readings.get(kind).size() < 20);
        readings.get(kind).add(new double[] {bent, kept});
        return readings.get(kind).size();
    }

    private double residue(int kind, double s) {
        double sum = 0;
        for (double[] reading : readings.get(kind)) {
            double e = reading[1] - reading[0] * (1 + s);
            sum += e * e;
        }
        return sum;
    }

    int fit(int kind, int rounds) {
        index(in(0, kind, 3));
        argument(in(0, rounds, 100));
        int kept = 0;
        for (int i = 0; i < rounds; i++) {
            double s = spring[kind];
            double h = step[kind];
            if (residue(kind, s + h) < residue(kind, s)) {
                spring[kind] = s + h;
                kept++;
            } else if (!(s - h < 0) && residue(kind, s - h) < residue(kind, s)) {
                spring[kind] = s - h;
                kept++;
            } else {
                step[kind] = h / 2;
            }
        }
        return kept;
    }

    double back(int kind, int what) {
        index(in(0, kind, 3) && in(0, what, 2));
        return what == 0 ? spring[kind] : what == 1 ? step[kind] : residue(kind, spring[kind]);
    }

    double form(int kind, double w) {
        index(in(0, kind, 3));
        argument(in(0.125, w, 100000));
        double low = 0;
        double high = w;
        for (int i = 0; i < 40; i++) {
            double m = (low + high) / 2;
            boolean isBelow = m * (1 + spring[kind]) < w;
            low = isBelow ? m : low;
            high = isBelow ? high : m;
        }
        return high;
    }

    double minutes(double thick) {
        argument(in(0, thick, 1000));
        return thick > 50 ? thick * 2.5 + 20 : thick * 2.5;
    }

    int piece(double length, double radius) {
        argument(in(0, length, 10000) && (radius == 0 || in(1, radius, 10000)));
        state(pieces.size() < 12);
        pieces.add(new double[] {length, radius});
        return pieces.size();
    }

    void clear() {
        pieces.clear();
    }

    double length(boolean outside, double t) {
        argument(in(0, t, 1000));
        argument(pieces.stream().noneMatch(piece -> piece[1] != 0 && t > 2 * piece[1]));
        double sum = 0;
        for (double[] piece : pieces) {
            double l = piece[0];
            double r = piece[1];
            sum += r == 0 ? l : outside ? l * (r + t / 2) / r : l * (r - t / 2) / r;
        }
        return sum;
    }

    int kerfs(double angle, double thick, double s, double v) {
        argument(in(1, angle, 360) && in(1, thick, 1000) && 0.125 <= s && s < thick && in(0.125, v, 100));
        turned = angle;
        closes = v / (thick - s) * 57.29577951308232;
        count = 1;
        while (count * closes < angle) {
            count++;
        }
        return count;
    }

    double kerfAt(int k, double length) {
        state(count != 0);
        index(in(0, k, count - 1));
        argument(in(0, length, 10000));
        return length * (2 * k + 1) / (2 * count);
    }

    double rest() {
        state(count != 0);
        return count * closes - turned;
    }

    long broken(int n, int bad, int part) {
        index(in(0, part, 3));
        argument(in(1, n, 1000000) && in(0, bad, n));
        BigInteger above = BigInteger.valueOf(bad + part / 2);
        BigInteger below = BigInteger.valueOf(n + 1);
        return (part % 2 == 0 ? above : below).divide(above.gcd(below)).longValue();
    }

    double relaxed(int kind, int days) {
        index(in(0, kind, 3));
        argument(in(0, days, 10000));
        double d = days;
        return 1 + spring[kind] * (1 - 1 / (1 + d / 8));
    }
}
