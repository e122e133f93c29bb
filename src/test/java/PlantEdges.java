/** The edges of promises 1 to 6 and 15 to 20, and of plants, thorns and triangles. */
final class PlantEdges {
    private static final String TERMS = "PLANTS, THORNS";

    private PlantEdges() {
    }

    static void test() {
        newObject();
        atMostSixteen();
        plantAgain();
        names();
        oneThornForTwo();
        neighbors();
        neighborsOfTheFirst();
        props();
        uproot();
        uprootMovesNumbers();
        counts();
        triangles();
    }

    private static void newObject() {
        Document.quote(1, "Creates a bare thicket.");
        ThornCores x = new ThornCores();
        Check.due("plants", 0, x::plantCount);
        Check.due("thorns", 0, x::thornCount);
        Check.due("history", 0, x::historySize);
        Check.due("no list", false, x::isValid);
        Check.due("error", 0, x::firstError);
        Check.due("triangles", 0, x::triangles);
        Check.due("triangles by support", 0, x::trianglesBySupport);
        Check.due("colors", 0, x::colors);
        Check.due("greatest core", 0, x::greatestCore);
        Check.due("average", 0.0f, x::averageNeighbors);
        for (int k : Thickets.upTo(16)) {
            Check.due("core " + k, 0, () -> x.core(k));
            Check.due("pieces " + k, 0, () -> x.corePieces(k));
            Check.due("truss " + k, 0, () -> x.trussSize(k));
            Check.due("prop " + k, Thickets.NO_ELEMENT, () -> x.bestProp(k));
        }
        Check.due("no snapshot", Thickets.BAD_STATE, x::restoreSnapshot);
        Check.due("no state before", Thickets.BAD_STATE, x::undo);
        Check.due("text", 0, x::clearText);
        Thickets.drain(Thickets.lived(16));
        Check.same("others leave no trace", Thickets.drain(new ThornCores()), Thickets.drain(x));
    }

    private static void atMostSixteen() {
        Document.quote(TERMS, "There are at most 16 plants, numbered from 0 in the order in which they were planted");
        ThornCores x = new ThornCores();
        Document.quote(2, "Plants a plant.");
        for (int number : Thickets.upTo(16)) {
            Check.due("none yet " + number, Thickets.NO_PLANT, () -> x.neighbors(number));
            Check.due("number", number, x::plant);
            Check.due("count", number + 1, x::plantCount);
            Check.due("bare", 0, () -> x.neighbors(number));
            Check.due("not propped", false, () -> x.isPropped(number));
        }
        Document.quote(2, "if there are 16");
        Check.due("seventeenth", Thickets.BAD_STATE, x::plant);
        Check.due("still 16", 16, x::plantCount);
        Check.due("none behind p", Thickets.NO_PLANT, () -> x.neighbors(16));
    }

    private static void plantAgain() {
        Document.quote(2, "if there are 16");
        ThornCores x = Thickets.prop(Thickets.complete(16), 15);
        x.uproot(15);
        Check.due("after one is gone", 15, x::plant);
        Check.due("without the thorns of the one before", 0, () -> x.neighbors(15));
        Check.due("without its prop", false, () -> x.isPropped(15));
        Check.due("and no further", Thickets.BAD_STATE, x::plant);
        x.undo();
        Check.due("after it is undone", 15, x::plant);
        ThornCores y = Thickets.of(15, "");
        y.takeSnapshot();
        y.plant();
        y.restoreSnapshot();
        Check.due("after a snapshot of 15", 15, y::plant);
        Check.due("seventeenth", Thickets.BAD_STATE, y::plant);
    }

    private static void names() {
        Document.quote(TERMS, "and named \"a\" to \"p\"");
        ThornCores x = Thickets.of(16, "");
        for (int plant : Thickets.upTo(16)) {
            Thickets.write(x, "!" + (char) ('a' + plant));
            Check.due("change", 1, x::change);
            Check.due("plants propped up", (2 << plant) - 1, () -> x.core(15));
        }
    }

    private static void oneThornForTwo() {
        Document.quote(TERMS, "at most one thorn the same two");
        Document.quote(4, "if they are bound");
        ThornCores x = Thickets.of(16, "ap");
        Check.due("twice", Thickets.BAD_STATE, () -> x.bind(0, 15));
        Check.due("twice, turned", Thickets.BAD_STATE, () -> x.bind(15, 0));
        Thickets.write(x, "a-p,p-a");
        Check.due("by text", 0, x::change);
        Check.due("one thorn", 1, x::thornCount);
        Document.quote(5, "if they are not bound");
        Check.due("cut, turned", 0, () -> x.cut(15, 0));
        Check.due("nothing is left", 0, x::thornCount);
        Check.due("cut twice", Thickets.BAD_STATE, () -> x.cut(0, 15));
        Check.due("cut twice, turned", Thickets.BAD_STATE, () -> x.cut(15, 0));
        Check.due("again", 1, () -> x.bind(15, 0));
    }

    private static void neighbors() {
        Document.quote(TERMS, "Two bound plants are neighbors.");
        Document.quote(17, "Returns the neighbors of a plant.");
        Document.quote(17, "a bit set, bit k for the plant k");
        ThornCores x = Thickets.of(16, "");
        for (int other : Thickets.upTo(15)) {
            x.bind(15, other);
            Check.due("of p", (2 << other) - 1, () -> x.neighbors(15));
            Check.due("of the other", 0x8000, () -> x.neighbors(other));
        }
        for (int other : Thickets.upTo(15)) {
            x.cut(other, 15);
            Check.due("of p again", 0x7fff & -(2 << other), () -> x.neighbors(15));
            Check.due("of the other again", 0, () -> x.neighbors(other));
        }
    }

    private static void neighborsOfTheFirst() {
        Document.quote(4, "Binds two plants.");
        Document.quote(4, "the number of neighbors of the first plant afterwards");
        ThornCores x = Thickets.of(16, "");
        for (int other = 1; other < 16; other++) {
            int bound = other;
            Check.due("first is the one with many", bound, () -> x.bind(0, bound));
        }
        ThornCores turned = Thickets.of(16, "");
        for (int other = 1; other < 16; other++) {
            int bound = other;
            Check.due("first is the one with few", 1, () -> turned.bind(bound, 0));
        }
        Document.quote(5, "Cuts the thorn between two plants.");
        Document.quote(5, "the number of neighbors of the first plant afterwards");
        for (int other = 1; other < 8; other++) {
            int bound = other;
            Check.due("many are left", 15 - bound, () -> x.cut(0, bound));
            Check.due("none is left", 0, () -> turned.cut(bound, 0));
        }
    }

    private static void props() {
        Document.quote(TERMS, "A plant can be propped up (at the beginning none is).");
        Document.quote(6, "Props a plant up, or not any more, if it is propped up.");
        Document.quote(6, "Returns true if it is propped up afterwards.");
        Document.quote(18, "Tells whether a plant is propped up.");
        Document.quote(18, "Returns true if it is.");
        ThornCores x = Thickets.of(16, "");
        for (int plant : Thickets.upTo(16)) {
            Check.due("not yet", false, () -> x.isPropped(plant));
            Check.due("up", true, () -> x.switchProp(plant));
            Check.due("is up", true, () -> x.isPropped(plant));
        }
        Check.due("all", 0xffff, () -> x.core(15));
        for (int plant : Thickets.upTo(16)) {
            Check.due("down", false, () -> x.switchProp(plant));
            Check.due("is down", false, () -> x.isPropped(plant));
            Check.due("those behind it are up", 0xffff & -(2 << plant), () -> x.core(15));
        }
        Check.due("p alone up", true, () -> x.switchProp(15));
        Check.due("a with it", true, () -> x.switchProp(0));
        Check.due("p down", false, () -> x.switchProp(15));
        Check.due("a still up", true, () -> x.isPropped(0));
        ThornCores last = Thickets.prop(Thickets.of(1, ""), 0);
        last.uproot(0);
        last.plant();
        Check.due("a new one is not", false, () -> last.isPropped(0));
    }

    private static void uproot() {
        Document.quote(3, "Uproots a plant, with its thorns");
        Document.quote(3, "Returns the number of thorns that are gone.");
        ThornCores one = Thickets.of(1, "");
        Check.due("the only one", 0, () -> one.uproot(0));
        Check.due("no plants", 0, one::plantCount);
        Check.due("and none is left", Thickets.NO_PLANT, () -> one.uproot(0));
        ThornCores full = Thickets.complete(16);
        for (int before = 16; before > 0; before--) {
            int most = before - 1;
            Check.due("of " + before, most, () -> full.uproot(most / 2));
            Check.due("plants", most, full::plantCount);
            Check.due("thorns", most * (most - 1) / 2, full::thornCount);
        }
        Check.due("no more", Thickets.NO_PLANT, () -> full.uproot(0));
    }

    private static void uprootMovesNumbers() {
        Document.quote(3, "the plants behind it get numbers that are 1 less");
        ThornCores first = Thickets.prop(Thickets.of(16, "ab bp op"), 1, 15);
        Check.due("first", 1, () -> first.uproot(0));
        Check.due("b is a", 0x4000, () -> first.neighbors(0));
        Check.due("o is n", 0x4000, () -> first.neighbors(13));
        Check.due("p is o", 0x2001, () -> first.neighbors(14));
        Check.due("props moved", 0x4001, () -> first.core(15));
        Check.due("no p", Thickets.NO_PLANT, () -> first.neighbors(15));
        ThornCores last = Thickets.prop(Thickets.of(16, "ab bp op"), 1, 15);
        Check.due("last", 2, () -> last.uproot(15));
        Check.due("a stays", 2, () -> last.neighbors(0));
        Check.due("b stays", 1, () -> last.neighbors(1));
        Check.due("o stays", 0, () -> last.neighbors(14));
        Check.due("prop of b stays", 2, () -> last.core(15));
        ThornCores inside = Thickets.prop(Thickets.of(16, "hg hi gi"), 6, 7);
        Check.due("inside", 2, () -> inside.uproot(7));
        Check.due("g stays before it", 0x80, () -> inside.neighbors(6));
        Check.due("i is h", 0x40, () -> inside.neighbors(7));
        Check.due("prop of h is gone", 0x40, () -> inside.core(15));
    }

    private static void counts() {
        Document.quote(15, "Returns the number of plants.");
        Document.quote(16, "Returns the number of thorns.");
        ThornCores x = Thickets.of(16, "");
        int thorns = 0;
        for (int one : Thickets.upTo(16)) {
            for (int two = one + 1; two < 16; two++) {
                x.bind(two, one);
                thorns++;
            }
            Check.due("thorns", thorns, x::thornCount);
        }
        Check.due("120", 120, x::thornCount);
        Check.due("16", 16, x::plantCount);
        x.cut(15, 14);
        Check.due("119", 119, x::thornCount);
        x.uproot(0);
        Check.due("15", 15, x::plantCount);
        Check.due("104", 104, x::thornCount);
    }

    private static void triangles() {
        Document.quote(TERMS, "A triangle is a set of three plants each two of which are bound.");
        String[] thorns = {"", "ab", "ab bc", "ab ac", "ac bc", "ab bc ac", "ac bc ab ad cd", "no np op", "ab ap bp",
            "ab bc cd ad", "ab ac ad bc bd cd"};
        int[] due = {0, 0, 0, 0, 0, 1, 2, 1, 1, 0, 4};
        for (int each : Thickets.upTo(due.length)) {
            ThornCores x = Thickets.of(16, thorns[each]);
            Document.quote(19, "found by looking at all sets of three plants");
            Check.due(thorns[each], due[each], x::triangles);
            Document.quote(20, "the same number, found from the supports of all thorns");
            Check.due(thorns[each], due[each], x::trianglesBySupport);
        }
        ThornCores full = Thickets.complete(16);
        Check.due("all by support", 560, full::trianglesBySupport);
        Check.due("all", 560, full::triangles);
        full.cut(0, 15);
        Check.due("all but 14", 546, full::triangles);
        Check.due("all but 14 by support", 546, full::trianglesBySupport);
    }
}
