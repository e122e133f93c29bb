/** Every call that the document refuses, with the exception that is due; and that the call changes nothing. */
final class RefusedCalls {
    private static final String IF_NO_PLANT = "Throws `IndexOutOfBoundsException` if there is no such plant";
    private static final String IF_NO_K = "Throws `IllegalArgumentException` if k is out of range";
    private static final String IF_NOT_BOUND = "Throws `NoSuchElementException` if they are not bound";
    private static final int[] SIZES = {0, 1, 2, 15, 16};

    /** Makes the same thicket again and again. */
    interface Made {
        ThornCores make();
    }

    private RefusedCalls() {
    }

    static void test() {
        fullThicket();
        noSuchPlant();
        noSuchSecondPlant();
        sameTwice();
        boundAndNotBound();
        notBoundAtAll();
        kOutOfRange();
        nonePropable();
        texts();
        history();
        firstListed();
    }

    /** Nothing is changed: the thicket cannot be told from one that was spared the call. */
    private static void refused(Made made, String due, HistoryEdges.Call call, String what) {
        ThornCores x = made.make();
        Check.due(what, due, () -> call.on(x));
        Check.due(what + " again", due, () -> call.on(x));
        Check.same(what + " changes nothing", Thickets.drain(made.make()), Thickets.drain(x));
    }

    private static void fullThicket() {
        Document.quote(2, "Throws `IllegalStateException` if there are 16");
        refused(() -> Thickets.lived(16), Thickets.BAD_STATE, ThornCores::plant, "lived");
        refused(() -> Thickets.complete(16), Thickets.BAD_STATE, ThornCores::plant, "all bound");
        refused(() -> Thickets.allPropped(16), Thickets.BAD_STATE, ThornCores::plant, "all propped");
    }

    private static void noSuchPlant() {
        Document.quote("EXCEPTIONS", "IndexOutOfBoundsException is thrown if there is no plant with a given number");
        for (int plants : SIZES) {
            for (int wrong : Thickets.notPlants(plants)) {
                noPlant(3, plants, x -> x.uproot(wrong), wrong);
                noPlant(6, plants, x -> x.switchProp(wrong), wrong);
                noPlant(17, plants, x -> x.neighbors(wrong), wrong);
                noPlant(18, plants, x -> x.isPropped(wrong), wrong);
                noPlant(22, plants, x -> x.coreOf(wrong), wrong);
                noPlant(23, plants, x -> x.coreByRounds(wrong), wrong);
                noPlant(24, plants, x -> x.placeOf(wrong), wrong);
                noPlant(32, plants, x -> x.colorOf(wrong), wrong);
                for (int k : new int[] {0, 2, 15}) {
                    noPlant(26, plants, x -> x.wouldFall(wrong, k), wrong);
                }
            }
        }
    }

    private static void noPlant(int promise, int plants, HistoryEdges.Call call, int wrong) {
        Document.quote(promise, IF_NO_PLANT);
        refused(() -> Thickets.lived(plants), Thickets.NO_PLANT, call, wrong + " of " + plants);
    }

    private static void noSuchSecondPlant() {
        for (int plants : SIZES) {
            int last = Math.max(0, plants - 1);
            for (int wrong : Thickets.notPlants(plants)) {
                for (int there : new int[] {0, last}) {
                    noPlants(plants, there, wrong);
                    noPlants(plants, wrong, there);
                }
                noPlants(plants, wrong, -1);
                noPlants(plants, plants, wrong);
            }
        }
    }

    private static void noPlants(int plants, int one, int two) {
        noPlant(4, plants, x -> x.bind(one, two), one);
        noPlant(5, plants, x -> x.cut(one, two), one);
        noPlant(28, plants, x -> x.support(one, two), one);
        noPlant(29, plants, x -> x.trussOf(one, two), one);
        noPlant(30, plants, x -> x.trussByRounds(one, two), one);
    }

    private static void sameTwice() {
        Document.quote("EXCEPTIONS", "or two plants that must be different are the same");
        for (int plants : new int[] {1, 2, 15, 16}) {
            for (int each : Thickets.upTo(plants)) {
                Made made = () -> Thickets.lived(plants);
                Document.quote(4, "Throws `IllegalArgumentException` if both are the same");
                refused(made, Thickets.BAD_ARGUMENT, x -> x.bind(each, each), "bind " + each);
                Document.quote(5, "Throws `IllegalArgumentException` if both are the same");
                refused(made, Thickets.BAD_ARGUMENT, x -> x.cut(each, each), "cut " + each);
                // Their throws clauses know no IllegalArgumentException: a plant is not bound to itself.
                Document.quote(28, IF_NOT_BOUND);
                refused(made, Thickets.NO_ELEMENT, x -> x.support(each, each), "support " + each);
                Document.quote(29, IF_NOT_BOUND);
                refused(made, Thickets.NO_ELEMENT, x -> x.trussOf(each, each), "trussOf " + each);
                Document.quote(30, IF_NOT_BOUND);
                refused(made, Thickets.NO_ELEMENT, x -> x.trussByRounds(each, each), "trussByRounds " + each);
            }
        }
    }

    private static void boundAndNotBound() {
        for (int plants : new int[] {2, 3, 16}) {
            Made made = () -> Thickets.lived(plants);
            for (int one = 0; one < plants; one++) {
                for (int two = 0; two < plants; two++) {
                    if (one - two == 1 || two - one == 1) {
                        bound(made, one, two);
                    } else if (one != two) {
                        notBound(made, one, two);
                    }
                }
            }
        }
    }

    private static void bound(Made made, int one, int two) {
        Document.quote(4, "Throws `IllegalStateException` if they are bound");
        refused(made, Thickets.BAD_STATE, x -> x.bind(one, two), one + " " + two);
    }

    private static void notBound(Made made, int one, int two) {
        Document.quote(5, "Throws `IllegalStateException` if they are not bound");
        refused(made, Thickets.BAD_STATE, x -> x.cut(one, two), one + " " + two);
        Document.quote(28, IF_NOT_BOUND);
        refused(made, Thickets.NO_ELEMENT, x -> x.support(one, two), one + " " + two);
        Document.quote(29, IF_NOT_BOUND);
        refused(made, Thickets.NO_ELEMENT, x -> x.trussOf(one, two), one + " " + two);
        Document.quote(30, IF_NOT_BOUND);
        refused(made, Thickets.NO_ELEMENT, x -> x.trussByRounds(one, two), one + " " + two);
    }

    private static void notBoundAtAll() {
        notBound(() -> Thickets.of(2, ""), 0, 1);
        notBound(() -> Thickets.of(16, ""), 15, 0);
        Made cut = () -> {
            ThornCores x = Thickets.complete(16);
            x.cut(0, 15);
            return x;
        };
        notBound(cut, 0, 15);
        notBound(cut, 15, 0);
        bound(() -> Thickets.complete(16), 0, 15);
        bound(() -> Thickets.complete(16), 15, 14);
    }

    private static void kOutOfRange() {
        Document.quote("EXCEPTIONS", "IllegalArgumentException if another argument is out of range");
        for (int plants : new int[] {1, 2, 16}) {
            for (int wrong : Thickets.notK()) {
                noK(21, plants, x -> x.core(wrong), wrong);
                noK(25, plants, x -> x.corePieces(wrong), wrong);
                noK(26, plants, x -> x.wouldFall(0, wrong), wrong);
                noK(26, plants, x -> x.wouldFall(plants - 1, wrong), wrong);
                noK(27, plants, x -> x.bestProp(wrong), wrong);
                noK(31, plants, x -> x.trussSize(wrong), wrong);
            }
        }
        for (int wrong : Thickets.notK()) {
            noK(21, 0, x -> x.core(wrong), wrong);
            noK(25, 0, x -> x.corePieces(wrong), wrong);
            noK(31, 0, x -> x.trussSize(wrong), wrong);
        }
    }

    private static void noK(int promise, int plants, HistoryEdges.Call call, int wrong) {
        Document.quote(promise, IF_NO_K);
        refused(() -> Thickets.lived(plants), Thickets.BAD_ARGUMENT, call, "k " + wrong + " of " + plants);
    }

    private static void nonePropable() {
        Document.quote(27, "Throws `NoSuchElementException` if all plants are propped up, or there are none");
        for (int plants : SIZES) {
            for (int k : Thickets.upTo(16)) {
                refused(() -> Thickets.allPropped(plants), Thickets.NO_ELEMENT, x -> x.bestProp(k), plants + ", " + k);
            }
        }
        Made uprooted = () -> {
            ThornCores x = Thickets.prop(Thickets.of(2, "ab"), 0);
            x.uproot(1);
            return x;
        };
        refused(uprooted, Thickets.NO_ELEMENT, x -> x.bestProp(2), "the unpropped one is uprooted");
    }

    private static void texts() {
        String full = "+,".repeat(29) + "+";
        for (String text : new String[] {full + ",", full + "?", "?".repeat(60), "+,".repeat(25) + "!a,a-b,o-p"}) {
            Document.quote(8, "Throws `IllegalStateException` if the buffer has 60 characters");
            Made made = () -> Thickets.write(Thickets.of(2, ""), text);
            for (char character : new char[] {'+', ',', 'a', 0, 0xffff}) {
                refused(made, Thickets.BAD_STATE, x -> x.append(character), text);
            }
        }
        Document.quote(7, "Throws `IllegalArgumentException` if the buffer is not a list of changes");
        String[] none = {"", ",", "+,", "a", "a-", "a/", "!", "a-b,", "a-a", "+?", "?+", "+,+,!q", "++", full + ",",
            full + "a"};
        for (String text : none) {
            for (int plants : SIZES) {
                Made made = () -> Thickets.write(Thickets.lived(plants), text);
                refused(made, Thickets.BAD_ARGUMENT, ThornCores::change, text);
            }
        }
        Document.quote(11, "Throws `IllegalStateException` if the buffer is a list of changes");
        Document.quote(10, "Returns true if it is.");
        for (String text : new String[] {"+", "!p", "a-b", "o/p", "+,a/b,!c", full}) {
            Made made = () -> Thickets.write(Thickets.lived(3), text);
            refused(made, Thickets.BAD_STATE, ThornCores::firstError, text);
        }
    }

    private static void history() {
        Document.quote(12, "Throws `IllegalStateException` if the history is empty");
        refused(ThornCores::new, Thickets.BAD_STATE, ThornCores::undo, "new");
        Made undone = () -> {
            ThornCores x = Thickets.lived(9);
            while (x.historySize() > 0) {
                x.undo();
            }
            return x;
        };
        refused(undone, Thickets.BAD_STATE, ThornCores::undo, "all undone");
        Document.quote(14, "Throws `IllegalStateException` if there is no snapshot");
        refused(ThornCores::new, Thickets.BAD_STATE, ThornCores::restoreSnapshot, "new");
        refused(() -> Thickets.of(16, "ab"), Thickets.BAD_STATE, ThornCores::restoreSnapshot, "16 plants");
        refused(() -> Thickets.written("+"), Thickets.BAD_STATE, ThornCores::restoreSnapshot, "a text");
    }

    /** Two of a call's reasons at once. */
    private static void firstListed() {
        Document.quote("EXCEPTIONS", "If several exceptions apply, the one that is listed first");
        Document.quote("EXCEPTIONS", "A method that throws an exception changes nothing.");
        for (int plants : SIZES) {
            Made made = () -> Thickets.lived(plants);
            for (int wrong : Thickets.notPlants(plants)) {
                refused(made, Thickets.NO_PLANT, x -> x.bind(wrong, wrong), "none, and the same");
                refused(made, Thickets.NO_PLANT, x -> x.cut(wrong, wrong), "none, the same, not bound");
                refused(made, Thickets.NO_PLANT, x -> x.support(wrong, wrong), "none, and not bound");
                refused(made, Thickets.NO_PLANT, x -> x.trussOf(wrong, wrong), "none, and not bound");
                refused(made, Thickets.NO_PLANT, x -> x.trussByRounds(wrong, wrong), "none, and not bound");
                refused(made, Thickets.NO_PLANT, x -> x.wouldFall(wrong, -1), "none, and no k");
                refused(made, Thickets.NO_PLANT, x -> x.wouldFall(wrong, 16), "none, and no k");
                refused(made, Thickets.NO_PLANT, x -> x.wouldFall(wrong, wrong), "none, and perhaps no k");
            }
            for (int wrong : Thickets.notK()) {
                Made propped = () -> Thickets.allPropped(plants);
                refused(propped, Thickets.BAD_ARGUMENT, x -> x.bestProp(wrong), "no k, and none to prop");
            }
        }
        refused(() -> Thickets.of(1, ""), Thickets.BAD_ARGUMENT, x -> x.cut(0, 0), "the same, and not bound");
    }
}
