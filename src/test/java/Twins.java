import java.util.ArrayList;
import java.util.List;

/**
 * Pairs of objects with the same past, one of which is asked a call more. If that call should
 * change nothing, all later calls must answer the same for both. A past, the call (asked twice)
 * and all later calls are fewer than 512 together, since nothing is promised behind these.
 */
final class Twins {
    interface Ask {
        double of(SteamBends x);
    }

    /** Pasts of an object. */
    enum Past {
        /** Nothing was asked before. */
        NEW,
        /** Some of everything; kind 3 is untouched, there is room for more everywhere. */
        USED,
        /** All that can be full is full. */
        FULL;

        SteamBends begin() {
            SteamBends x = new SteamBends();
            switch (this) {
                case USED -> use(x);
                case FULL -> fill(x);
                default -> { }
            }
            tellPieces(x);
            return x;
        }

        void tellPieces(SteamBends x) {
            if (this == USED) {
                x.piece(10, 0);
                x.piece(20, 200);
                x.piece(7.5, 150);
            }
            for (int i = 0; this == FULL && i < 12; i++) {
                x.piece(i + 0.5, i % 4 == 0 ? 0 : 300 - i);
            }
        }
    }

    static final Past[] ANY = Past.values();
    static final Past[] WITH_ROOM = {Past.NEW, Past.USED};
    static final Past[] WITH_ALL = {Past.FULL};
    static final Past[] WITH_KERFS = {Past.USED, Past.FULL};
    static final Past[] WITHOUT_ALL = {Past.NEW};

    private static final double[] THICKS = {0, 0.125, 1, 2, 2.75, 3, 4, 7.3, 10, 1000};

    private Twins() {
    }

    /** The call throws, and changes nothing that later calls answer. */
    static void refused(String name, Class<? extends RuntimeException> want, Past[] pasts, Ask call) {
        for (Past past : pasts) {
            SteamBends asked = past.begin();
            String at = name + ", " + past;
            Check.dueThrow(at, want, () -> call.of(asked));
            Check.dueThrow(at + ", asked again", want, () -> call.of(asked));
            same(at + " (refused)", asked, past.begin());
        }
    }

    /** The call answers what is due, and changes nothing that later calls answer. */
    static void onlyAnswers(String name, double due, Past[] pasts, Ask call) {
        for (Past past : pasts) {
            SteamBends asked = past.begin();
            String at = name + ", " + past;
            Check.due(at, due, () -> call.of(asked));
            Check.due(at + ", asked again", due, () -> call.of(asked));
            same(at + " (only asked)", asked, past.begin());
        }
    }

    /** What later calls answer of both is the same. */
    static void same(String name, SteamBends asked, SteamBends twin) {
        List<String> got = later(asked);
        List<String> due = later(twin);
        for (int i = 0; i < due.size(); i++) {
            if (!got.get(i).equals(due.get(i))) {
                Check.holds(name + ": later " + got.get(i) + ", but its twin " + due.get(i), false);
                return;
            }
        }
    }

    private static void use(SteamBends x) {
        x.table(0, 2, 30);
        x.table(0, 4, 70);
        x.table(0, 10, 400);
        x.table(1, 3, 45.5);
        x.table(2, 1, 500);
        x.table(2, 7.3, 5);
        x.read(0, 10, 13);
        x.read(0, 20, 25);
        x.read(0, 40, 54);
        x.fit(0, 5);
        x.read(1, 7, 7.5);
        x.fit(2, 1);
        x.kerfs(90, 20, 3, 2);
    }

    private static void fill(SteamBends x) {
        for (int kind = 0; kind < 4; kind++) {
            for (int i = 1; i <= 12; i++) {
                x.table(kind, i + kind / 8.0, 10 * i + kind);
            }
            for (int i = 1; i <= 20; i++) {
                x.read(kind, 3 * i, 3.5 * i + kind);
            }
            x.fit(kind, 3 + kind);
        }
        x.kerfs(180, 25, 2.5, 1.2);
    }

    private static List<String> later(SteamBends x) {
        List<String> answers = new ArrayList<>();
        asThingsAre(x, answers);
        untilFull(x, answers);
        asThingsAre(x, answers);
        x.clear();
        add(answers, "length when cleared", () -> x.length(true, 1000));
        add(answers, "piece when cleared", () -> x.piece(3, 2));
        add(answers, "length of that piece", () -> x.length(false, 1));
        return answers;
    }

    private static void asThingsAre(SteamBends x, List<String> answers) {
        for (int i = 0; i < 4; i++) {
            int kind = i;
            for (int j = 0; j < 3; j++) {
                int what = j;
                add(answers, "back " + kind + " " + what, () -> x.back(kind, what));
            }
            for (double thick : THICKS) {
                add(answers, "radius " + kind + " " + thick, () -> x.radius(kind, thick));
            }
            add(answers, "strips " + kind, () -> x.strips(kind, 20, 35));
            add(answers, "form " + kind, () -> x.form(kind, 100));
            add(answers, "relaxed " + kind, () -> x.relaxed(kind, 8));
        }
        for (double thick : new double[] {0, 1, 300, 300.125, 578, 578.125, 1000}) {
            add(answers, "inside " + thick, () -> x.length(false, thick));
            add(answers, "outside " + thick, () -> x.length(true, thick));
        }
        add(answers, "rest", () -> x.rest());
        for (int k : new int[] {0, 1, 13, 14, 58, 59}) {
            add(answers, "kerfAt " + k, () -> x.kerfAt(k, 100));
        }
        add(answers, "minutes", () -> x.minutes(60));
        add(answers, "broken", () -> x.broken(9, 4, 1));
    }

    private static void untilFull(SteamBends x, List<String> answers) {
        for (int i = 0; i < 4; i++) {
            int kind = i;
            add(answers, "fit " + kind, () -> x.fit(kind, 1));
            for (double thick : new double[] {0.125, 3, 7.3, 10}) {
                add(answers, "table " + kind + " " + thick, () -> x.table(kind, thick, 9));
                double next = Math.nextUp(thick);
                add(answers, "table " + kind + " " + next, () -> x.table(kind, next, 8));
            }
            for (int j = 1; j <= 9; j++) {
                double thick = 11 + j;
                add(answers, "table " + kind + " " + thick, () -> x.table(kind, thick, 7));
            }
            for (int j = 1; j <= 21; j++) {
                double kept = 6 + j;
                add(answers, "read " + kind + " " + kept, () -> x.read(kind, 6, kept));
            }
            add(answers, "fit " + kind + " once more", () -> x.fit(kind, 3));
        }
        for (int i = 1; i <= 13; i++) {
            double length = i;
            add(answers, "piece " + length, () -> x.piece(length, 800));
        }
    }

    private static void add(List<String> answers, String name, Check.Call call) {
        String answer;
        try {
            answer = String.valueOf(call.answer());
        } catch (RuntimeException e) {
            answer = e.getClass().getName();
        }
        answers.add(name + " answers " + answer);
    }
}
