/** Asks at the ends of a range that the document tells, and on both sides of each. */
final class Edges {
    interface With {
        double of(SteamBends x, double number);
    }

    interface WithWhole {
        double of(SteamBends x, int number);
    }

    interface Due {
        double of(double number);
    }

    interface DueWhole {
        double of(int number);
    }

    private Edges() {
    }

    /** At least and at most, and just inside of them: taken, with the answer that is due. */
    static void taken(String name, double least, double most, Twins.Past[] pasts, With call, Due due) {
        double[] numbers = {least, Math.nextUp(least), (least + most) / 2, Math.nextDown(most), most};
        for (Twins.Past past : pasts) {
            for (double number : numbers) {
                SteamBends x = past.begin();
                Check.due(name + " " + number + ", " + past, due.of(number), () -> call.of(x, number));
            }
        }
    }

    /** Just outside of least and most, and far outside: IllegalArgumentException, and nothing is changed. */
    static void refused(String name, double least, double most, Twins.Past[] pasts, With call) {
        double[] numbers = {
            Math.nextDown(least), least - 0.125, -least, least - 1, Math.nextUp(most), most + 0.125, most * 2,
            -most, Double.MAX_VALUE, -Double.MAX_VALUE,
            Double.NaN, Double.POSITIVE_INFINITY, Double.NEGATIVE_INFINITY};
        for (double number : numbers) {
            // Minus 0 is 0, which some ranges begin with.
            if (!(number >= least && number <= most)) {
                Twins.refused(name + " " + number, Check.ARGUMENT, pasts, x -> call.of(x, number));
            }
        }
    }

    /** The same of whole numbers. */
    static void takenWhole(String name, int least, int most, Twins.Past[] pasts, WithWhole call, DueWhole due) {
        int[] numbers = {least, least + 1, (least + most) / 2, most - 1, most};
        for (Twins.Past past : pasts) {
            for (int number : numbers) {
                if (number >= least && number <= most) {
                    SteamBends x = past.begin();
                    Check.due(name + " " + number + ", " + past, due.of(number), () -> call.of(x, number));
                }
            }
        }
    }

    /** The same of whole numbers, with the exception that is due. */
    static void refusedWhole(String name, int least, int most, Class<? extends RuntimeException> want,
            Twins.Past[] pasts, WithWhole call) {
        // The far ones would come back into the range if they were added to, doubled or cut to fewer bits.
        int inside = most > least ? least + 1 : least;
        int[] numbers = {
            least - 1, least - 2, most + 1, most + 2, Integer.MIN_VALUE, Integer.MIN_VALUE + 1,
            Integer.MAX_VALUE, Integer.MAX_VALUE - 1, -most - 1, 1 << 16, 1 << 24, 1 << 30,
            inside + (1 << 8), inside + (1 << 16), inside + (1 << 24), inside + (1 << 30), inside + (1 << 31)};
        for (int number : numbers) {
            if (number < least || number > most) {
                Twins.refused(name + " " + number, want, pasts, x -> call.of(x, number));
            }
        }
    }
}
