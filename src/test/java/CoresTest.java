/** Promises 19 to 27: triangles and cores. */
public final class CoresTest {
    /** A square with both diagonals, a tail of two, a triangle apart, and a plant alone. */
    private static final String THORNS = "ab ac ad bc bd cd de ef gh hi gi";

    public static void main(String[] args) {
        triangles();
        core();
        coreWithProps();
        coreNumbers();
        places();
        pieces();
        wouldFall();
        bestProp();
        wrongArguments();
        Check.finish();
    }

    private static void triangles() {
        ThornCores x = Thickets.of(10, THORNS);
        Check.due("19 triangles", 5, x::triangles);
        Check.due("20 by support", 5, x::trianglesBySupport);
        x.cut(0, 1);
        Check.due("19 two less", 3, x::triangles);
        Check.due("20 two less", 3, x::trianglesBySupport);
        Check.due("19 square", 0, () -> Thickets.of(4, "ab bc cd ad").triangles());
        Check.due("20 square", 0, () -> Thickets.of(4, "ab bc cd ad").trianglesBySupport());
        Check.due("19 none", 0, () -> new ThornCores().triangles());
        Check.due("20 none", 0, () -> new ThornCores().trianglesBySupport());
        Check.due("19 all", 560, () -> Thickets.complete(16).triangles());
        Check.due("20 all", 560, () -> Thickets.complete(16).trianglesBySupport());
    }

    private static void core() {
        ThornCores x = Thickets.of(10, THORNS);
        Check.due("21 0", 0x3ff, () -> x.core(0));
        Check.due("21 1", 0x1ff, () -> x.core(1));
        Check.due("21 2", 0x1cf, () -> x.core(2));
        Check.due("21 3", 0xf, () -> x.core(3));
        Check.due("21 4", 0, () -> x.core(4));
        Check.due("21 15", 0, () -> x.core(15));
        Check.due("21 all", 0xffff, () -> Thickets.complete(16).core(15));
        Check.due("21 15 of 15", 0, () -> Thickets.complete(15).core(15));
        Check.due("21 a chain falls whole", 0, () -> Thickets.of(16, "ab bc cd de ef fg gh hi ij jk kl lm mn no op").core(2));
    }

    private static void coreWithProps() {
        ThornCores x = Thickets.prop(Thickets.of(10, THORNS), 5, 9);
        Check.due("21 props hold the tail", 0x3ff, () -> x.core(2));
        Check.due("21 props alone", 0x220, () -> x.core(4));
        Check.due("21 props in 15", 0x220, () -> x.core(15));
        Check.due("21 3 with props", 0x22f, () -> x.core(3));
        Check.due("22 tail", 2, () -> x.coreOf(4));
        Check.due("23 tail", 2, () -> x.coreByRounds(4));
        Check.due("22 propped", 15, () -> x.coreOf(9));
        Check.due("23 propped", 15, () -> x.coreByRounds(9));
        Check.due("34 props left out", 3, x::greatestCore);
    }

    private static void coreNumbers() {
        ThornCores x = Thickets.of(10, THORNS);
        int[] due = {3, 3, 3, 3, 1, 1, 2, 2, 2, 0};
        for (int plant = 0; plant < due.length; plant++) {
            int asked = plant;
            Check.due("22 plant " + plant, due[plant], () -> x.coreOf(asked));
            Check.due("23 plant " + plant, due[plant], () -> x.coreByRounds(asked));
        }
        ThornCores full = Thickets.complete(16);
        Check.due("22 all", 15, () -> full.coreOf(7));
        Check.due("23 all", 15, () -> full.coreByRounds(7));
        ThornCores chain = Thickets.of(6, "ec ca ab bd df");
        Check.due("23 sinks in several rounds", 1, () -> chain.coreByRounds(0));
        ThornCores star = Thickets.of(5, "ab ac ad ae");
        Check.due("22 star", 1, () -> star.coreOf(0));
        Check.due("23 star", 1, () -> star.coreByRounds(0));
    }

    private static void places() {
        ThornCores x = Thickets.of(10, THORNS);
        int[] due = {6, 7, 8, 9, 2, 1, 3, 4, 5, 0};
        for (int plant = 0; plant < due.length; plant++) {
            int asked = plant;
            Check.due("24 plant " + plant, due[plant], () -> x.placeOf(asked));
        }
        Thickets.prop(x, 9, 0);
        int[] propped = {8, 5, 6, 7, 1, 0, 2, 3, 4, 9};
        for (int plant = 0; plant < propped.length; plant++) {
            int asked = plant;
            Check.due("24 with props " + plant, propped[plant], () -> x.placeOf(asked));
        }
        ThornCores held = Thickets.prop(Thickets.of(4, "ad bd cd ab"), 3);
        Check.due("24 propped neighbors count", 0, () -> held.placeOf(2));
        Check.due("24 lowest of several", 1, () -> held.placeOf(0));
        ThornCores allPropped = Thickets.prop(Thickets.of(3, "ab bc"), 2, 1, 0);
        Check.due("24 in the order of numbers", 1, () -> allPropped.placeOf(1));
    }

    private static void pieces() {
        ThornCores x = Thickets.of(10, THORNS);
        Check.due("25 0", 3, () -> x.corePieces(0));
        Check.due("25 1", 2, () -> x.corePieces(1));
        Check.due("25 3", 1, () -> x.corePieces(3));
        Check.due("25 4", 0, () -> x.corePieces(4));
        ThornCores bridge = Thickets.of(7, "ab bc ac cd de ef fg eg");
        Check.due("25 bridge holds in 2", 1, () -> bridge.corePieces(2));
        ThornCores props = Thickets.prop(Thickets.of(3, "ab bc"), 0, 2);
        Check.due("25 thorns out of the core do not connect", 2, () -> props.corePieces(3));
        Check.due("25 in 2 they do", 1, () -> props.corePieces(2));
        ThornCores chain = Thickets.of(16, "pa bp cb dc ed fe gf hg ih ji kj lk ml nm on");
        Check.due("25 long piece", 1, () -> chain.corePieces(1));
        Check.due("25 no thorns", 16, () -> Thickets.of(16, "").corePieces(0));
    }

    private static void wouldFall() {
        ThornCores x = Thickets.of(10, THORNS);
        Check.due("26 square", 4, () -> x.wouldFall(0, 3));
        Check.due("26 one of the square in 2", 1, () -> x.wouldFall(0, 2));
        Check.due("26 triangle", 3, () -> x.wouldFall(6, 2));
        Check.due("26 tail", 2, () -> x.wouldFall(4, 1));
        Check.due("26 not in the core", 0, () -> x.wouldFall(4, 2));
        Check.due("26 alone in 0", 1, () -> x.wouldFall(9, 0));
        ThornCores props = Thickets.prop(Thickets.of(4, "ab bc cd"), 0, 3);
        Check.due("26 propped one falls too", 3, () -> props.wouldFall(0, 2));
        Check.due("26 changes nothing", 4, props::plantCount);
        Check.due("26 changes no history", 6, props::historySize);
        Check.due("26 all", 16, () -> Thickets.complete(16).wouldFall(15, 15));
    }

    private static void bestProp() {
        ThornCores x = Thickets.of(7, "ab bc cd de ef");
        Check.due("27 any of the chain, lowest", 0, () -> x.bestProp(2));
        x.switchProp(0);
        Check.due("27 the other end", 5, () -> x.bestProp(2));
        Check.due("27 the one alone in 1", 6, () -> x.bestProp(1));
        Check.due("27 all in 0", 1, () -> x.bestProp(0));
        Check.due("27 none helps in 15", 1, () -> x.bestProp(15));
        ThornCores one = Thickets.prop(Thickets.of(2, ""), 0);
        Check.due("27 the only one", 1, () -> one.bestProp(3));
        one.switchProp(1);
        Check.due("27 all propped", Thickets.NO_ELEMENT, () -> one.bestProp(3));
        Check.due("27 k first", Thickets.BAD_ARGUMENT, () -> one.bestProp(16));
        Check.due("27 no plants", Thickets.NO_ELEMENT, () -> new ThornCores().bestProp(0));
        Check.due("27 changes nothing", false, () -> x.isPropped(5));
        ThornCores full = Thickets.of(16, "");
        for (int plant = 0; plant < 15; plant++) {
            full.switchProp(plant);
        }
        Check.due("27 last of 16", 15, () -> full.bestProp(1));
        full.switchProp(15);
        Check.due("27 all 16", Thickets.NO_ELEMENT, () -> full.bestProp(1));
    }

    private static void wrongArguments() {
        ThornCores x = Thickets.of(3, "ab");
        for (int wrong : new int[] {-1, 3, 16, 32, 35, Integer.MIN_VALUE, Integer.MAX_VALUE}) {
            Check.due("22 plant " + wrong, Thickets.NO_PLANT, () -> x.coreOf(wrong));
            Check.due("23 plant " + wrong, Thickets.NO_PLANT, () -> x.coreByRounds(wrong));
            Check.due("24 plant " + wrong, Thickets.NO_PLANT, () -> x.placeOf(wrong));
            Check.due("26 plant " + wrong, Thickets.NO_PLANT, () -> x.wouldFall(wrong, 2));
            Check.due("26 plant first " + wrong, Thickets.NO_PLANT, () -> x.wouldFall(wrong, -1));
        }
        for (int wrong : new int[] {-1, 16, Integer.MIN_VALUE, Integer.MAX_VALUE}) {
            Check.due("21 k " + wrong, Thickets.BAD_ARGUMENT, () -> x.core(wrong));
            Check.due("25 k " + wrong, Thickets.BAD_ARGUMENT, () -> x.corePieces(wrong));
            Check.due("26 k " + wrong, Thickets.BAD_ARGUMENT, () -> x.wouldFall(0, wrong));
            Check.due("27 k " + wrong, Thickets.BAD_ARGUMENT, () -> x.bestProp(wrong));
            Check.due("27 k first " + wrong, Thickets.BAD_ARGUMENT, () -> new ThornCores().bestProp(wrong));
        }
        Check.due("21 greatest k", 0, () -> x.core(15));
        Check.due("25 greatest k", 0, () -> x.corePieces(15));
        Check.due("26 greatest k", 0, () -> x.wouldFall(0, 15));
        Check.due("27 greatest k", 0, () -> x.bestProp(15));
    }
}
