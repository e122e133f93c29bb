/** The edges of promises 21 to 23, 25 to 27 and 34, and of cores. */
final class CoreEdges {
    private CoreEdges() {
    }

    static void test() {
        fewerThanK();
        againAndAgain();
        exceptProppedOnes();
        zeroToFifteen();
        coreNumbers();
        numbersByRounds();
        numbersAfterOthers();
        pieces();
        wouldFall();
        wouldFallFromTheCore();
        bestProp();
        bestPropOfSeveral();
        greatestCore();
    }

    private static void fewerThanK() {
        Document.quote("CORES", "plants with fewer than k neighbors among those that are left are removed");
        Document.quote(21, "Returns the k-core.");
        Document.quote(21, "Returns a bit set of plants.");
        for (int plants = 1; plants <= 16; plants++) {
            int all = (1 << plants) - 1;
            int most = plants - 1;
            ThornCores x = Thickets.complete(plants);
            for (int k : Thickets.upTo(16)) {
                Check.due(plants + " all bound, k " + k, k <= most ? all : 0, () -> x.core(k));
            }
        }
        for (int reach = 1; reach <= 7; reach++) {
            ThornCores ring = Thickets.ring(reach);
            int each = 2 * reach;
            Check.due("one more than enough", 0xffff, () -> ring.core(each - 1));
            Check.due("enough", 0xffff, () -> ring.core(each));
            Check.due("one too few", 0, () -> ring.core(each + 1));
            ring.cut(0, 15);
            Check.due("all but one thorn", 0, () -> ring.core(each));
            Check.due("all but one thorn, one less", 0xffff, () -> ring.core(each - 1));
        }
    }

    private static void againAndAgain() {
        Document.quote("CORES", "removed again and again, except propped ones, until there are none");
        String up = "ab bc cd de ef fg gh hi ij jk kl lm mn no op";
        String mixed = "hg gi if fj je ek kd dl lc cm mb bn na ao op";
        for (String row : new String[] {up, mixed}) {
            ThornCores x = Thickets.of(16, row);
            Check.due("from both ends", 0, () -> x.core(2));
            Check.due("none falls", 0xffff, () -> x.core(1));
            x.bind(0, 7);
            x.cut(0, 7);
            Check.due("asked again", 0, () -> x.core(2));
        }
        ThornCores tail = Thickets.of(16, "no np op nm ml lk kj ji ih hg gf fe ed dc cb ba");
        Check.due("up to the triangle", 0xe000, () -> tail.core(2));
        ThornCores other = Thickets.of(16, "ab bc ac cd de ef fg gh hi ij jk kl lm mn no op");
        Check.due("down to the triangle", 7, () -> other.core(2));
    }

    private static void exceptProppedOnes() {
        Document.quote("CORES", "except propped ones");
        Check.due("one propped", 1, () -> Thickets.allPropped(1).core(15));
        Check.due("all propped", 0xffff, () -> Thickets.allPropped(16).core(15));
        ThornCores ends = Thickets.prop(Thickets.of(16, "ab bc cd de ef fg gh hi ij jk kl lm mn no op"), 0, 15);
        Check.due("both ends hold the row", 0xffff, () -> ends.core(2));
        Check.due("but not for 3", 0x8001, () -> ends.core(3));
        ends.switchProp(15);
        Check.due("one end does not", 1, () -> ends.core(2));
        ThornCores hub = Thickets.prop(Thickets.of(16, "ba bc bd be"), 0, 2, 3, 4);
        Check.due("held by 4 propped ones", 0x1f, () -> hub.core(4));
        Check.due("not for 5", 0x1d, () -> hub.core(5));
    }

    private static void zeroToFifteen() {
        int[] promises = {21, 25, 26, 27};
        for (int promise : promises) {
            Document.quote(promise, "`k`: 0 to 15");
        }
        ThornCores full = Thickets.complete(16);
        ThornCores few = Thickets.complete(15);
        Check.due("core 0", 0xffff, () -> full.core(0));
        Check.due("core 15", 0xffff, () -> full.core(15));
        Check.due("core 14 of 15", 0x7fff, () -> few.core(14));
        Check.due("core 15 of 15", 0, () -> few.core(15));
        Check.due("pieces 0", 1, () -> full.corePieces(0));
        Check.due("pieces 15", 1, () -> full.corePieces(15));
        Check.due("pieces 15 of 15", 0, () -> few.corePieces(15));
        Check.due("would fall 0", 1, () -> full.wouldFall(0, 0));
        Check.due("would fall 14", 1, () -> full.wouldFall(0, 14));
        Check.due("would fall 15", 16, () -> full.wouldFall(0, 15));
        Check.due("would fall 15 of 15", 0, () -> few.wouldFall(0, 15));
        Check.due("best prop 0", 0, () -> full.bestProp(0));
        Check.due("best prop 15", 0, () -> full.bestProp(15));
        Check.due("best prop 15 of 15", 0, () -> few.bestProp(15));
    }

    private static void number(ThornCores x, int plant, int due) {
        Check.due("of " + plant, due, () -> x.coreOf(plant));
        Check.due("by rounds of " + plant, due, () -> x.coreByRounds(plant));
    }

    private static void coreNumbers() {
        Document.quote("CORES", "the greatest k, from 0 to 15, for which it is in the k-core");
        Document.quote(22, "Returns 0 to 15.");
        Document.quote(23, "Returns 0 to 15.");
        for (int plants = 1; plants <= 16; plants++) {
            ThornCores x = Thickets.complete(plants);
            number(x, 0, plants - 1);
            number(x, plants - 1, plants - 1);
        }
        ThornCores full = Thickets.complete(16);
        full.cut(0, 15);
        number(full, 0, 14);
        number(full, 15, 14);
        number(full, 7, 14);
        Document.quote("CORES", "for a propped plant it is 15");
        ThornCores x = Thickets.prop(Thickets.of(16, "ab"), 0, 15);
        number(x, 0, 15);
        number(x, 15, 15);
        number(x, 1, 1);
        number(x, 2, 0);
        x.switchProp(0);
        number(x, 0, 1);
    }

    private static void numbersByRounds() {
        Document.quote(22, "found by removing plants again and again");
        Document.quote(23, "at first how many neighbors it has, 15 for a propped one");
        ThornCores star = Thickets.of(16, "ab ac ad ae af ag ah ai aj ak al am an ao ap");
        number(star, 0, 1);
        number(star, 15, 1);
        for (int plant = 1; plant < 16; plant++) {
            star.switchProp(plant);
            number(star, 0, Math.max(1, plant));
        }
        // The numbers sink from the end that nothing holds, one after the other.
        ThornCores up = Thickets.prop(Thickets.of(16, "ab bc cd de ef fg gh hi ij jk kl lm mn no op"), 0);
        ThornCores down = Thickets.prop(Thickets.of(16, "ab bc cd de ef fg gh hi ij jk kl lm mn no op"), 15);
        for (int plant : Thickets.upTo(16)) {
            number(up, plant, plant == 0 ? 15 : 1);
            number(down, plant, plant == 15 ? 15 : 1);
        }
        ThornCores late = Thickets.of(16, "no op np");
        number(late, 0, 0);
        number(late, 15, 2);
        Document.quote(23, "the greatest h for which at least h neighbors have a number of at least h");
        ThornCores rows = Thickets.of(16, "pn nl lj jh hf fd db ba ac ce eg gi ik km mo");
        number(rows, 0, 1);
        number(rows, 15, 1);
        rows.bind(15, 14);
        number(rows, 0, 2);
        number(rows, 15, 2);
        Thickets.prop(rows, 15).cut(15, 14);
        number(rows, 0, 1);
        number(rows, 13, 1);
        rows.switchProp(14);
        number(rows, 0, 2);
        number(rows, 13, 2);
    }

    /** What an earlier question has found must not show in a later one. */
    private static void numbersAfterOthers() {
        Document.quote(23, "until nothing changes");
        ThornCores x = Thickets.complete(16);
        number(x, 15, 15);
        x.uproot(15);
        number(x, 14, 14);
        x.plant();
        number(x, 15, 0);
        x.bind(15, 0);
        number(x, 15, 1);
        number(x, 0, 14);
        x.switchProp(15);
        number(x, 15, 15);
        x.switchProp(15);
        number(x, 15, 1);
    }

    private static void pieces() {
        Document.quote(25, "sets of plants that are connected by thorns within the k-core, and cannot be made larger");
        Check.due("one plant", 1, () -> Thickets.of(1, "").corePieces(0));
        Check.due("one plant, 1", 0, () -> Thickets.of(1, "").corePieces(1));
        Check.due("16 alone", 16, () -> Thickets.of(16, "").corePieces(0));
        Check.due("16 alone, 1", 0, () -> Thickets.of(16, "").corePieces(1));
        Check.due("16 propped alone", 16, () -> Thickets.allPropped(16).corePieces(15));
        ThornCores pairs = Thickets.of(16, "ap bo cn dm el fk gj hi");
        Check.due("8 pairs", 8, () -> pairs.corePieces(1));
        Check.due("8 pairs, 2", 0, () -> pairs.corePieces(2));
        ThornCores row = Thickets.of(16, "ap pb bo oc cn nd dm me el lf fk kg gj jh hi");
        Check.due("a row to and fro", 1, () -> row.corePieces(1));
        row.cut(7, 8);
        Check.due("one at its end alone", 2, () -> row.corePieces(0));
        Check.due("is not in 1", 1, () -> row.corePieces(1));
        ThornCores two = Thickets.of(16, "ab bc ac no op np cd dm mn");
        Check.due("a path in 1", 1, () -> two.corePieces(1));
        Check.due("it holds in 2", 1, () -> two.corePieces(2));
        two.cut(3, 12);
        Check.due("two without it", 2, () -> two.corePieces(2));
        ThornCores outside = Thickets.prop(Thickets.of(3, "ab bc"), 0, 2);
        Check.due("a path out of the core", 2, () -> outside.corePieces(3));
    }

    private static void wouldFall() {
        Document.quote(26, "the number of plants that would not be in the k-core any more if a plant was uprooted");
        ThornCores x = Thickets.of(16, "ab bc cd de ef fg gh hi ij jk kl lm mn no op pa");
        Check.due("all of a ring", 16, () -> x.wouldFall(0, 2));
        Check.due("all of a ring, from its end", 16, () -> x.wouldFall(15, 2));
        Check.due("one of a ring in 1", 1, () -> x.wouldFall(0, 1));
        Check.due("none in 3", 0, () -> x.wouldFall(0, 3));
        x.cut(0, 15);
        Check.due("with the one that it alone holds", 2, () -> x.wouldFall(1, 1));
        Check.due("the end alone", 1, () -> x.wouldFall(0, 1));
        Check.due("nothing has changed", 16, x::plantCount);
        Check.due("nor a thorn", 15, x::thornCount);
        ThornCores star = Thickets.of(16, "ab ac ad ae af ag ah ai aj ak al am an ao ap");
        Check.due("the hub", 16, () -> star.wouldFall(0, 1));
        Check.due("a leaf", 1, () -> star.wouldFall(1, 1));
        Thickets.prop(star, 1, 2);
        Check.due("propped ones stay", 14, () -> star.wouldFall(0, 1));
        Check.due("the hub alone in 2", 1, () -> star.wouldFall(0, 2));
        Check.due("a propped one takes the hub along", 2, () -> star.wouldFall(1, 2));
    }

    private static void wouldFallFromTheCore() {
        Document.quote(26, "the plant itself included if it is in the k-core");
        ThornCores x = Thickets.of(4, "ab bc ac cd");
        Check.due("it is", 3, () -> x.wouldFall(0, 2));
        Check.due("it is not", 0, () -> x.wouldFall(3, 2));
        Check.due("in 0 each is", 1, () -> x.wouldFall(3, 0));
        Check.due("of one plant", 1, () -> Thickets.of(1, "").wouldFall(0, 0));
        Check.due("of one plant, 1", 0, () -> Thickets.of(1, "").wouldFall(0, 1));
        Check.due("of one propped", 1, () -> Thickets.allPropped(1).wouldFall(0, 15));
        Check.due("last of all propped", 1, () -> Thickets.allPropped(16).wouldFall(15, 15));
    }

    private static void bestProp() {
        Document.quote(27, "Returns the plant that is not propped up with which the k-core would have the most plants");
        ThornCores x = Thickets.prop(Thickets.of(16, "ab bc cd de ef fg gh hi ij jk kl lm mn no op"), 0);
        Check.due("the other end", 15, () -> x.bestProp(2));
        x.switchProp(0);
        x.switchProp(15);
        Check.due("the first", 0, () -> x.bestProp(2));
        x.switchProp(14);
        x.switchProp(15);
        Check.due("on the far side of the propped one", 0, () -> x.bestProp(2));
        ThornCores star = Thickets.of(16, "pa pb pc pd pe pf pg ph pi pj pk");
        Check.due("one more than none", 11, () -> star.bestProp(1));
        star.switchProp(15);
        Check.due("nothing is propped up by asking", 11, () -> star.bestProp(1));
        Check.due("nor recorded", 6, star::historySize);
    }

    private static void bestPropOfSeveral() {
        Document.quote(27, "of several the lowest");
        Check.due("all alike", 0, () -> Thickets.of(16, "").bestProp(0));
        Check.due("all alike in 15", 0, () -> Thickets.of(16, "").bestProp(15));
        Check.due("the first is propped", 1, () -> Thickets.prop(Thickets.of(16, ""), 0).bestProp(0));
        ThornCores rows = Thickets.prop(Thickets.of(7, "ab bc de ef"), 0, 3);
        Check.due("two are best", 2, () -> rows.bestProp(2));
        rows.bind(5, 6);
        Check.due("one is better", 6, () -> rows.bestProp(2));
        for (int free : Thickets.upTo(16)) {
            ThornCores x = Thickets.allPropped(16);
            x.switchProp(free);
            for (int k : new int[] {0, 1, 15}) {
                Check.due("the only one, " + k, free, () -> x.bestProp(k));
            }
        }
        ThornCores two = Thickets.allPropped(16);
        two.switchProp(14);
        two.switchProp(15);
        Check.due("lower of the last two", 14, () -> two.bestProp(15));
        Check.due("the only plant", 0, () -> Thickets.of(1, "").bestProp(15));
    }

    private static void greatestCore() {
        Document.quote(34, "Returns the greatest core number of the plants that are not propped up.");
        for (int plants = 1; plants <= 16; plants++) {
            int most = plants - 1;
            Check.due("of " + plants, most, () -> Thickets.complete(most + 1).greatestCore());
        }
        ThornCores x = Thickets.prop(Thickets.of(4, "ab bc ac cd"), 3);
        Check.due("not that of the propped one", 2, x::greatestCore);
        Document.quote(34, "0 if there are none");
        Check.due("no plants", 0, () -> new ThornCores().greatestCore());
        Check.due("all propped", 0, () -> Thickets.allPropped(16).greatestCore());
        Check.due("one propped", 0, () -> Thickets.allPropped(1).greatestCore());
        Check.due("all but one, which is bare", 0, () -> Thickets.prop(Thickets.of(2, ""), 1).greatestCore());
        ThornCores full = Thickets.complete(16);
        Thickets.prop(full, Thickets.upTo(15));
        Check.due("all but one, which is bound to all", 15, full::greatestCore);
        full.switchProp(15);
        Check.due("all bound and propped", 0, full::greatestCore);
    }
}
