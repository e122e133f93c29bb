/** Promises 32 to 35: colors and totals. */
public final class ColorsTest {
    public static void main(String[] args) {
        colors();
        greatestCore();
        averages();
        Check.finish();
    }

    private static void colors() {
        // They fall away as d, e, a, b, c, and get colors the other way round.
        ThornCores x = Thickets.of(5, "ab bc ac cd be");
        int[] due = {2, 1, 0, 1, 0};
        for (int plant = 0; plant < due.length; plant++) {
            int asked = plant;
            Check.due("32 plant " + plant, due[plant], () -> x.colorOf(asked));
        }
        Check.due("33 three", 3, x::colors);
        Check.due("33 asked first", 2, () -> Thickets.of(2, "ab").colors());
        x.cut(0, 2);
        Check.due("33 two after a cut", 2, x::colors);
        x.bind(0, 2);
        Thickets.prop(x, 0);
        int[] propped = {0, 2, 1, 0, 0};
        for (int plant = 0; plant < propped.length; plant++) {
            int asked = plant;
            Check.due("32 with a prop " + plant, propped[plant], () -> x.colorOf(asked));
        }
        ThornCores full = Thickets.complete(16);
        Check.due("32 first of 16", 15, () -> full.colorOf(0));
        Check.due("32 last of 16", 0, () -> full.colorOf(15));
        Check.due("33 all", 16, full::colors);
        Check.due("33 none", 0, () -> new ThornCores().colors());
        Check.due("33 no thorns", 1, () -> Thickets.of(4, "").colors());
        for (int wrong : new int[] {-1, 5, 16, 32, Integer.MIN_VALUE, Integer.MAX_VALUE}) {
            Check.due("32 plant " + wrong, Thickets.NO_PLANT, () -> x.colorOf(wrong));
        }
    }

    private static void greatestCore() {
        Check.due("34 no plants", 0, () -> new ThornCores().greatestCore());
        Check.due("34 no thorns", 0, () -> Thickets.of(3, "").greatestCore());
        Check.due("34 all", 15, () -> Thickets.complete(16).greatestCore());
        Check.due("34 triangle", 2, () -> Thickets.of(4, "ab bc ac cd").greatestCore());
        Check.due("34 all propped", 0, () -> Thickets.prop(Thickets.of(2, "ab"), 0, 1).greatestCore());
        Check.due("34 held by props", 2, () -> Thickets.prop(Thickets.of(3, "ab bc"), 0, 2).greatestCore());
    }

    private static void averages() {
        Check.due("35 no plants", 0.0f, () -> new ThornCores().averageNeighbors());
        Check.due("35 one plant", 0.0f, () -> Thickets.of(1, "").averageNeighbors());
        Check.due("35 third", 4 / 3f, () -> Thickets.of(3, "ab bc").averageNeighbors());
        Check.due("35 all", 15.0f, () -> Thickets.complete(16).averageNeighbors());
        Check.due("35 seventh", 2 / 7f, () -> Thickets.of(7, "ab").averageNeighbors());
    }
}
