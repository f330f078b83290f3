/** Reckons what bending wood by steam asks for; what each call answers is told in DOC.md. */
public final class SteamBends {
    public static final int NONE = -1;

    private static final int KINDS = 4;
    private static final int MOST_ROWS = 12;
    private static final int MOST_READINGS = 20;
    private static final int MOST_PIECES = 12;
    private static final int MOST_STRIPS = 100;
    private static final int MOST_ROUNDS = 100;
    private static final int MOST_DAYS = 10000;
    private static final int MOST_BROKEN = 1000000;
    private static final int FORM_ROUNDS = 40;
    // The narrowest saw in the thickest wood needs 50260 kerfs for a whole circle.
    private static final int LARGEST_KERF_STEP = 32768;
    // Euclid needs fewer than 32 steps for numbers up to MOST_BROKEN + 1.
    private static final int DIVISOR_STEPS = 64;

    private final Kind[] kinds = new Kind[KINDS];
    private final Shape shape = new Shape();
    private int kerfCount = 0;
    private double kerfRest = 0;

    public SteamBends() {
        for (int i = 0; i < kinds.length; i++) {
            kinds[i] = new Kind();
        }
    }

    public int table(int kind, double thick, double radius)
            throws IndexOutOfBoundsException, IllegalArgumentException, IllegalStateException {
        Kind wood = kindOf(kind);
        if (!isWithin(thick, 0.125, 1000) || !isWithin(radius, 0.125, 10000) || !wood.isAboveRows(thick)) {
            throw new IllegalArgumentException("thick or radius is not as said");
        }
        int count = wood.rows.add(thick, radius);
        if (count == NONE) {
            throw new IllegalStateException("the kind has no room for a row more");
        }
        return count;
    }

    public double radius(int kind, double thick)
            throws IndexOutOfBoundsException, IllegalArgumentException, IllegalStateException {
        Kind wood = kindOf(kind);
        if (!isWithin(thick, 0, 1000)) {
            throw new IllegalArgumentException("thick is not 0 .. 1000");
        }
        double least = wood.leastRadius(thick);
        if (isNone(least)) {
            throw new IllegalStateException("thick lies outside the rows");
        }
        return least;
    }

    public int strips(int kind, double thick, double radius2)
            throws IndexOutOfBoundsException, IllegalArgumentException {
        Kind wood = kindOf(kind);
        if (!isWithin(thick, 0.125, 10000) || !isWithin(radius2, 0.125, 10000)) {
            throw new IllegalArgumentException("thick or radius is not 0.125 .. 10000");
        }
        return wood.leastStrips(thick, radius2);
    }

    public int read(int kind, double bent, double kept)
            throws IndexOutOfBoundsException, IllegalArgumentException, IllegalStateException {
        Kind wood = kindOf(kind);
        if (!isWithin(bent, 0.125, 10000) || !isWithin(kept, bent, 100000)) {
            throw new IllegalArgumentException("bent or kept is not as said");
        }
        int count = wood.readings.add(bent, kept);
        if (count == NONE) {
            throw new IllegalStateException("the kind has no room for a reading more");
        }
        return count;
    }

    public int fit(int kind, int rounds)
            throws IndexOutOfBoundsException, IllegalArgumentException {
        Kind wood = kindOf(kind);
        if (rounds < 0 || rounds > MOST_ROUNDS) {
            throw new IllegalArgumentException("rounds are not 0 .. 100");
        }
        int kept = 0;
        for (int i = 0; i < rounds; i++) {
            if (wood.fitsBetter()) {
                kept++;
            }
        }
        return kept;
    }

    public double back(int kind, int what)
            throws IndexOutOfBoundsException {
        Kind wood = kindOf(kind);
        switch (what) {
            case 0:
                return wood.spring;
            case 1:
                return wood.step;
            case 2:
                return wood.residue(wood.spring);
            default:
                throw new IndexOutOfBoundsException("what is not 0 .. 2");
        }
    }

    public double form(int kind, double wanted)
            throws IndexOutOfBoundsException, IllegalArgumentException {
        Kind wood = kindOf(kind);
        if (!isWithin(wanted, 0.125, 100000)) {
            throw new IllegalArgumentException("wanted is not 0.125 .. 100000");
        }
        return wood.formFor(wanted);
    }

    public double minutes(double thick)
            throws IllegalArgumentException {
        if (!isWithin(thick, 0, 1000)) {
            throw new IllegalArgumentException("thick is not 0 .. 1000");
        }
        double steam = thick * 2.5;
        return thick > 50 ? steam + 20 : steam;
    }

    public int piece(double length, double radius4)
            throws IllegalArgumentException, IllegalStateException {
        if (!isWithin(length, 0, 10000) || !(radius4 == 0 || isWithin(radius4, 1, 10000))) {
            throw new IllegalArgumentException("length or radius is not as said");
        }
        int count = shape.pieces.add(length, radius4);
        if (count == NONE) {
            throw new IllegalStateException("the shape has no room for a piece more");
        }
        return count;
    }

    public void clear() {
        shape.pieces.removeAll();
    }

    public double length(boolean outside, double thick)
            throws IllegalArgumentException {
        if (!isWithin(thick, 0, 1000) || !shape.isBendable(thick)) {
            throw new IllegalArgumentException("thick is not 0 .. 1000, or too thick for a radius");
        }
        return shape.sumOfLengths(outside, thick);
    }

    public int kerfs(double angle, double thick, double stays, double saw)
            throws IllegalArgumentException {
        if (!isWithin(angle, 1, 360) || !isWithin(thick, 1, 1000)
                || !isWithin(stays, 0.125, thick) || stays == thick || !isWithin(saw, 0.125, 100)) {
            throw new IllegalArgumentException("angle, thick, stays or saw is not as said");
        }
        double closes = saw / (thick - stays) * 57.29577951308232;
        kerfCount = leastKerfs(angle, closes);
        kerfRest = kerfCount * closes - angle;
        return kerfCount;
    }

    public double kerfAt(int k, double length)
            throws IllegalStateException, IndexOutOfBoundsException, IllegalArgumentException {
        if (kerfCount <= 0) {
            throw new IllegalStateException("no kerfs were asked for");
        }
        if (k < 0 || k >= kerfCount) {
            throw new IndexOutOfBoundsException("there is no such kerf");
        }
        if (!isWithin(length, 0, 10000)) {
            throw new IllegalArgumentException("length is not 0 .. 10000");
        }
        return length * (2 * k + 1) / (2 * kerfCount);
    }

    public double rest()
            throws IllegalStateException {
        if (kerfCount <= 0) {
            throw new IllegalStateException("no kerfs were asked for");
        }
        return kerfRest;
    }

    public long broken(int n, int bad, int part)
            throws IndexOutOfBoundsException, IllegalArgumentException {
        if (part < 0 || part > 3) {
            throw new IndexOutOfBoundsException("part is not 0 .. 3");
        }
        if (n < 1 || n > MOST_BROKEN || bad < 0 || bad > n) {
            throw new IllegalArgumentException("n or bad is not as said");
        }
        int numerator = part < 2 ? bad : bad + 1;
        int denominator = n + 1;
        int asked = part == 0 || part == 2 ? numerator : denominator;
        int divisor = commonDivisor(denominator, numerator);
        return divisor > 0 ? asked / divisor : asked;
    }

    public double relaxed(int kind, int days)
            throws IndexOutOfBoundsException, IllegalArgumentException {
        Kind wood = kindOf(kind);
        if (days < 0 || days > MOST_DAYS) {
            throw new IllegalArgumentException("days are not 0 .. 10000");
        }
        return 1 + wood.spring * (1 - 1 / (1 + days / 8.0));
    }

    private Kind kindOf(int kind) {
        Kind found = kind >= 0 && kind < kinds.length ? kinds[kind] : null;
        if (found == null) {
            throw new IndexOutOfBoundsException("there is no such kind");
        }
        return found;
    }

    // False for NaN too, since no comparison with it holds.
    private static boolean isWithin(double number, double least, double most) {
        return number >= least && number <= most;
    }

    // A radius is never below 0, so that NONE can stand where there is none.
    private static boolean isNone(double radius) {
        return radius < 0;
    }

    // The product never falls as the count grows, so that the last count
    // that is too small can be put together from halved steps.
    private static int leastKerfs(double angle, double closes) {
        int tooFew = 0;
        for (int step = LARGEST_KERF_STEP; step > 0; step /= 2) {
            if ((tooFew + step) * closes < angle) {
                tooFew += step;
            }
        }
        return tooFew + 1;
    }

    private static int commonDivisor(int larger, int lesser) {
        int divisor = larger;
        int left = lesser;
        for (int i = 0; i < DIVISOR_STEPS && left > 0; i++) {
            int next = divisor % left;
            divisor = left;
            left = next;
        }
        return divisor;
    }

    /** Pairs of numbers, as many at most as there was room made for. */
    private static final class Pairs {
        private final double[] firsts;
        private final double[] seconds;
        private int count = 0;

        Pairs(int most) {
            int room = Math.max(most, 0);
            firsts = new double[room];
            seconds = new double[room];
        }

        /** Answers how many there are then, or NONE (and changes nothing) if there is no room. */
        int add(double first, double second) {
            if (!isPlace(count)) {
                return NONE;
            }
            firsts[count] = first;
            seconds[count] = second;
            count++;
            return count;
        }

        void removeAll() {
            count = 0;
        }

        double first(int i) {
            return isPlace(i) ? firsts[i] : 0;
        }

        double second(int i) {
            return isPlace(i) ? seconds[i] : 0;
        }

        private boolean isPlace(int i) {
            return i >= 0 && i < firsts.length && i < seconds.length;
        }
    }

    /** A kind of wood: its rows (thick, radius), its readings (bent, kept) and its spring. */
    private static final class Kind {
        private final Pairs rows = new Pairs(MOST_ROWS);
        private final Pairs readings = new Pairs(MOST_READINGS);
        private double spring = 0.25;
        private double step = 0.25;

        boolean isAboveRows(double thick) {
            return rows.count == 0 || thick > rows.first(rows.count - 1);
        }

        /** The least radius of a thickness, NONE outside the rows. */
        double leastRadius(double thick) {
            for (int i = 0; i < rows.count; i++) {
                if (rows.first(i) == thick) {
                    return rows.second(i);
                }
                if (rows.first(i) > thick) {
                    return i == 0 ? NONE : radiusBetween(i - 1, i, thick);
                }
            }
            return NONE;
        }

        private double radiusBetween(int thinner, int thicker, double thick) {
            double t0 = rows.first(thinner);
            double t1 = rows.first(thicker);
            double r0 = rows.second(thinner);
            double r1 = rows.second(thicker);
            return t1 > t0 ? r0 + (thick - t0) * (r1 - r0) / (t1 - t0) : r0;
        }

        int leastStrips(double thick, double wanted) {
            for (int n = 1; n <= MOST_STRIPS; n++) {
                double least = leastRadius(thick / n);
                if (!isNone(least) && least <= wanted) {
                    return n;
                }
            }
            return NONE;
        }

        double residue(double tried) {
            double sum = 0;
            for (int i = 0; i < readings.count; i++) {
                double e = readings.second(i) - readings.first(i) * (1 + tried);
                sum = sum + e * e;
            }
            return sum;
        }

        /** One round of fitting: whether a spring with a lesser residue was taken. */
        boolean fitsBetter() {
            double now = residue(spring);
            double more = spring + step;
            if (residue(more) < now) {
                spring = more;
                return true;
            }
            double less = spring - step;
            if (less >= 0 && residue(less) < now) {
                spring = less;
                return true;
            }
            step = step / 2;
            return false;
        }

        double formFor(double wanted) {
            double low = 0;
            double high = wanted;
            for (int i = 0; i < FORM_ROUNDS; i++) {
                double middle = (low + high) / 2;
                if (middle * (1 + spring) < wanted) {
                    low = middle;
                } else {
                    high = middle;
                }
            }
            return high;
        }
    }

    /** A shape of pieces (length, radius), a straight one with radius 0. */
    private static final class Shape {
        private final Pairs pieces = new Pairs(MOST_PIECES);

        boolean isBendable(double thick) {
            for (int i = 0; i < pieces.count; i++) {
                double radius = pieces.second(i);
                if (radius > 0 && thick > 2 * radius) {
                    return false;
                }
            }
            return true;
        }

        double sumOfLengths(boolean outside, double thick) {
            double sum = 0;
            for (int i = 0; i < pieces.count; i++) {
                sum = sum + lengthOf(i, outside, thick);
            }
            return sum;
        }

        private double lengthOf(int i, boolean outside, double thick) {
            double middle = pieces.first(i);
            double radius = pieces.second(i);
            if (!(radius > 0)) {
                return middle;
            }
            double side = outside ? radius + thick / 2 : radius - thick / 2;
            return middle * side / radius;
        }
    }
}
