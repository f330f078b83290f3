/** Promise 1: what a new object has none of, and what of it is there from the first call on. */
public final class NewObjectEdgesTest {
    public static void main(String[] args) {
        kindsWithoutRows();
        kindsWithoutReadings();
        springAndStep();
        shapeWithoutPieces();
        noKerfs();
        objectsAfterOthers();
        Check.end();
    }

    // "Four kinds without ROWS": none at all, then one, and room for all 12.
    private static void kindsWithoutRows() {
        for (int i = 0; i < 4; i++) {
            int kind = i;
            for (double thick : new double[] {0, 0.125, 1, 999.875, 1000}) {
                Twins.refused("no row, thick " + thick, Check.STATE, Twins.WITHOUT_ALL, x -> x.radius(kind, thick));
            }
            for (double thick : new double[] {0.125, 1, 10000}) {
                Twins.onlyAnswers("no strips", -1, Twins.WITHOUT_ALL, x -> x.strips(kind, thick, 10000));
            }
            SteamBends y = new SteamBends();
            Check.due("the first row", 1, () -> y.table(kind, 0.125, 7));
            Check.due("is there", 7, () -> y.radius(kind, 0.125));
            for (int n = 2; n <= 12; n++) {
                int row = n;
                Check.due("row " + row, row, () -> y.table(kind, row, 7));
            }
            for (int j = 0; j < 4; j++) {
                int other = j;
                if (other != kind) {
                    Check.dueThrow("other kinds have none", Check.STATE, () -> y.radius(other, 0.125));
                }
            }
        }
    }

    // "without ... READINGS": a residue of none, then of one, and room for all 20.
    private static void kindsWithoutReadings() {
        for (int i = 0; i < 4; i++) {
            int kind = i;
            Twins.onlyAnswers("no residue", 0, Twins.WITHOUT_ALL, x -> x.back(kind, 2));
            SteamBends y = new SteamBends();
            Check.due("the first reading", 1, () -> y.read(kind, 4, 6));
            Check.due("is there", 1, () -> y.back(kind, 2));
            for (int n = 2; n <= 20; n++) {
                int reading = n;
                Check.due("reading " + reading, reading, () -> y.read(kind, 4, 6));
            }
            for (int j = 0; j < 4; j++) {
                int other = j;
                if (other != kind) {
                    Check.due("other kinds have none", 0, () -> y.back(other, 2));
                }
            }
        }
    }

    // "each with a SPRING and a STEP of 0.25"
    private static void springAndStep() {
        for (int i = 0; i < 4; i++) {
            int kind = i;
            Twins.onlyAnswers("spring", 0.25, Twins.WITHOUT_ALL, x -> x.back(kind, 0));
            Twins.onlyAnswers("step", 0.25, Twins.WITHOUT_ALL, x -> x.back(kind, 1));
            Twins.onlyAnswers("relaxed by that spring", 1.125, Twins.WITHOUT_ALL, x -> x.relaxed(kind, 8));
            Twins.onlyAnswers("form by that spring", 80.00000000001819, Twins.WITHOUT_ALL, x -> x.form(kind, 100));
            SteamBends y = new SteamBends();
            Check.due("a round without readings", 0, () -> y.fit(kind, 1));
            Check.due("halves the step", 0.125, () -> y.back(kind, 1));
            Check.due("and leaves the spring", 0.25, () -> y.back(kind, 0));
        }
    }

    // "a SHAPE without PIECES": not even a least radius, then one, and room for all 12.
    private static void shapeWithoutPieces() {
        for (double thick : new double[] {0, 1, 1000}) {
            Twins.onlyAnswers("inside of none", 0, Twins.WITHOUT_ALL, x -> x.length(false, thick));
            Twins.onlyAnswers("outside of none", 0, Twins.WITHOUT_ALL, x -> x.length(true, thick));
        }
        SteamBends y = new SteamBends();
        for (int n = 1; n <= 12; n++) {
            int piece = n;
            Check.due("piece " + piece, piece, () -> y.piece(1, 0));
            Check.due("the length of them", piece, () -> y.length(true, 1000));
        }
    }

    // "no KERFS were asked for": refused before the first kerfs(), answered behind it.
    private static void noKerfs() {
        Twins.refused("no rest", Check.STATE, Twins.WITHOUT_ALL, x -> x.rest());
        for (int k : new int[] {-1, 0, 1}) {
            Twins.refused("no kerf " + k, Check.STATE, Twins.WITHOUT_ALL, x -> x.kerfAt(k, 1));
        }
        SteamBends y = new SteamBends();
        Check.due("the first kerfs", 1, () -> y.kerfs(57.29577951308232, 2, 1, 1));
        Check.due("a rest of 0", 0, () -> y.rest());
        Check.due("one kerf", 0.5, () -> y.kerfAt(0, 1));
    }

    private static void objectsAfterOthers() {
        SteamBends fresh = new SteamBends();
        for (int i = 0; i < 50; i++) {
            Twins.Past.FULL.begin();
        }
        Twins.same("an object beside full ones", fresh, new SteamBends());
        Twins.same("an object made behind full ones", new SteamBends(), new SteamBends());
    }
}
