import java.util.StringJoiner;

/** The edges of promises 24, 32, 33 and 35: the order in which plants fall away, colors and the average. */
final class FallingEdges {
    private static final String UP = "0 1 2 3 4 5 6 7 8 9 10 11 12 13 14 15";
    private static final String DOWN = "15 14 13 12 11 10 9 8 7 6 5 4 3 2 1 0";

    private FallingEdges() {
    }

    static void test() {
        fewestNeighbors();
        amongAllThatAreLeft();
        lowestOfSeveral();
        proppedInTheEnd();
        placesFromZero();
        leastColor();
        reverseOfTheOrder();
        numberOfColors();
        average();
        averageWithoutPlants();
    }

    private static String places(ThornCores x) {
        StringJoiner places = new StringJoiner(" ");
        for (int plant : Thickets.upTo(x.plantCount())) {
            places.add(Check.answer(() -> x.placeOf(plant)));
        }
        return places.toString();
    }

    private static String colors(ThornCores x) {
        StringJoiner colors = new StringJoiner(" ");
        for (int plant : Thickets.upTo(x.plantCount())) {
            colors.add(Check.answer(() -> x.colorOf(plant)));
        }
        return colors.toString();
    }

    private static void fewestNeighbors() {
        Document.quote("CORES", "the one with the fewest neighbors among all plants that are left falls away");
        Check.same("the bare one first", "1 2 3 0", places(Thickets.of(4, "ab ac bc")));
        Check.same("the pair behind it", "1 2 0", places(Thickets.of(3, "ab")));
        Check.same("the hub before the last leaf", "3 0 1 2 4", places(Thickets.of(5, "ab ac ad ae")));
        Check.same("the last leaf before the hub", "0 1 2 3 4", places(Thickets.of(5, "ea eb ec ed")));
        ThornCores dense = Thickets.complete(16);
        dense.cut(13, 15);
        Check.same("14 before 15, and then all have 14", "1 2 3 4 5 6 7 8 9 10 11 12 13 0 14 15", places(dense));
    }

    private static void amongAllThatAreLeft() {
        Document.quote("CORES", "again and again, of the plants that are left and not propped up");
        Check.same("fallen ones do not count", "2 4 5 0 1 3 6", places(Thickets.of(7, "ad ae af bc bg cg")));
        Check.same("propped ones do", "1 0 2", places(Thickets.prop(Thickets.of(3, "ac"), 2)));
    }

    private static void lowestOfSeveral() {
        Document.quote("CORES", "of several the one with the lowest number");
        Check.same("all bare", UP, places(Thickets.of(16, "")));
        Check.same("all bound", UP, places(Thickets.complete(16)));
        Check.same("a ring", UP, places(Thickets.ring(1)));
        Check.same("a wide ring", "0 1", places(Thickets.ring(3)).substring(0, 3));
    }

    private static void proppedInTheEnd() {
        Document.quote("CORES", "in the end the propped ones fall away, in the order of their numbers");
        Check.same("between others", "2 0 3 1", places(Thickets.prop(Thickets.of(4, ""), 2, 0)));
        Check.same("a bare one behind bound ones", "2 0 1", places(Thickets.prop(Thickets.of(3, "bc"), 0)));
        Check.same("hub before propped leaves", "1 2 3 0", places(Thickets.prop(Thickets.of(4, "da db dc"), 0, 1, 2)));
        Check.same("neighbors do not matter for them", "0 1 2 3",
                places(Thickets.prop(Thickets.of(4, "ab ac ad"), 3, 2, 1, 0)));
        Check.same("all", UP, places(Thickets.allPropped(16)));
        Check.same("all but the first", UP, places(Thickets.prop(Thickets.allPropped(16), 0)));
        Check.same("all but the last", "1 2 3 4 5 6 7 8 9 10 11 12 13 14 15 0",
                places(Thickets.prop(Thickets.allPropped(16), 15)));
        Check.same("the first alone", "15 0 1 2 3 4 5 6 7 8 9 10 11 12 13 14",
                places(Thickets.prop(Thickets.complete(16), 0)));
        Check.same("the last alone", UP, places(Thickets.prop(Thickets.complete(16), 15)));
    }

    private static void placesFromZero() {
        Document.quote(24, "Returns the place of a plant in the order in which plants fall away.");
        Document.quote(24, "Returns the place, from 0.");
        Check.same("one plant", "0", places(Thickets.of(1, "")));
        Check.same("one propped", "0", places(Thickets.allPropped(1)));
        ThornCores x = Thickets.complete(16);
        Check.due("first", 0, () -> x.placeOf(0));
        Check.due("last", 15, () -> x.placeOf(15));
        x.uproot(3);
        Check.due("last of 15", 14, () -> x.placeOf(14));
        x.plant();
        Check.due("a bare one behind", 0, () -> x.placeOf(15));
        Check.due("last of 16", 15, () -> x.placeOf(14));
    }

    private static void leastColor() {
        Document.quote("COLORS", "each gets the least color that none of its neighbors has already");
        Document.quote(32, "Returns the color of a plant.");
        Check.same("one", "0", colors(Thickets.of(1, "")));
        Check.same("two", "1 0", colors(Thickets.of(2, "ab")));
        Check.same("not bound", "0 0", colors(Thickets.of(2, "")));
        Check.same("all bound", DOWN, colors(Thickets.complete(16)));
        Check.same("an even ring", "1 0 1 0 1 0 1 0 1 0 1 0 1 0 1 0", colors(Thickets.ring(1)));
        Check.same("an odd ring", "2 1 0 1 0", colors(Thickets.of(5, "ab bc cd de ea")));
        ThornCores gaps = Thickets.prop(Thickets.of(5, "de cd ce bc be ad ac"), Thickets.upTo(5));
        Check.same("1 between 0 and 2, 0 in front of 1 and 2", "0 1 2 1 0", colors(gaps));
    }

    private static void reverseOfTheOrder() {
        Document.quote("COLORS", "in the reverse of the order in which they fall away");
        Check.same("a row", "1 0 1 0", colors(Thickets.of(4, "ab bc cd")));
        Check.same("a propped one gets its color first", "0 1", colors(Thickets.prop(Thickets.of(2, "ab"), 0)));
        Check.same("the last of two propped ones", "1 0 2", colors(Thickets.prop(Thickets.of(3, "ab bc ac"), 0, 1)));
        ThornCores allButLast = Thickets.prop(Thickets.complete(16), Thickets.upTo(15));
        Check.same("all but the last propped", "14 13 12 11 10 9 8 7 6 5 4 3 2 1 0 15", colors(allButLast));
        Check.same("all bound and propped", DOWN, colors(Thickets.prop(Thickets.complete(16), Thickets.upTo(16))));
    }

    private static void numberOfColors() {
        Document.quote("COLORS", "The plants get colors, numbers from 0");
        Document.quote(33, "Returns the number of colors.");
        Check.due("no plants", 0, () -> new ThornCores().colors());
        for (int plants = 1; plants <= 16; plants++) {
            int all = plants;
            Check.due("all bound", all, () -> Thickets.complete(all).colors());
            Check.due("none bound", 1, () -> Thickets.of(all, "").colors());
        }
        Check.due("even ring", 2, () -> Thickets.ring(1).colors());
        Check.due("odd ring", 3, () -> Thickets.of(5, "ab bc cd de ea").colors());
        Check.due("three, but one for a", 3, () -> Thickets.of(16, "no op np").colors());
        ThornCores x = Thickets.complete(16);
        Check.due("16", 16, x::colors);
        x.cut(0, 1);
        Check.due("15 when two are not bound", 15, x::colors);
        x.uproot(2);
        x.uproot(2);
        Check.due("13 of 14", 13, x::colors);
    }

    private static void average() {
        Document.quote(35, "Returns the average number of neighbors.");
        Document.quote(35, "twice the number of thorns, converted to float, divided by the number of plants");
        for (int plants = 1; plants <= 16; plants++) {
            ThornCores x = Thickets.of(plants, "");
            int thorns = 0;
            Check.due("no thorns", 0.0f, x::averageNeighbors);
            for (int one = 0; one < plants; one++) {
                for (int two = one + 1; two < plants; two++) {
                    x.bind(one, two);
                    thorns++;
                    float due = (float) (2 * thorns) / plants;
                    Check.due(thorns + " by " + plants, due, x::averageNeighbors);
                }
            }
            Check.due("all", (float) (plants - 1), x::averageNeighbors);
        }
        Check.due("two thirds", 0.6666667f, () -> Thickets.of(3, "ab").averageNeighbors());
        Check.due("an eighth", 0.125f, () -> Thickets.of(16, "ab").averageNeighbors());
    }

    private static void averageWithoutPlants() {
        Document.quote(35, "0.0f without plants");
        Check.due("new", 0.0f, () -> new ThornCores().averageNeighbors());
        ThornCores x = Thickets.of(2, "ab");
        Check.due("one", 1.0f, x::averageNeighbors);
        x.uproot(0);
        Check.due("one plant", 0.0f, x::averageNeighbors);
        x.uproot(0);
        Check.due("all gone", 0.0f, x::averageNeighbors);
        x.undo();
        x.undo();
        Check.due("undone", 1.0f, x::averageNeighbors);
    }
}
