import java.util.ArrayDeque;
import java.util.ArrayList;
import java.util.Deque;
import java.util.List;
import java.util.concurrent.Callable;

/** The edges of promises 12 to 14 and 36, of the history and of what is a modification. */
final class HistoryEdges {
    /** A call of the face. */
    interface Call {
        Object on(ThornCores x) throws Exception;
    }

    private HistoryEdges() {
    }

    static void test() {
        atMostSix();
        roundAndRound();
        undoRemoves();
        stateConsistsOf();
        modifications();
        modificationsOfTheSameState();
        noModifications();
        snapshots();
        snapshotStays();
    }

    private static void atMostSix() {
        Document.quote("HISTORY", "A history of at most 6 states is kept");
        Document.quote(36, "Returns the number of states in the history.");
        for (int made = 0; made <= 15; made++) {
            ThornCores x = Thickets.of(made, "");
            int states = Math.min(made, 6);
            Check.due("after " + made, states, x::historySize);
            Document.quote(12, "Returns the number of states that remain in the history.");
            for (int remaining = states - 1; remaining >= 0; remaining--) {
                Check.due("undo of " + made, remaining, x::undo);
                Check.due("size of " + made, remaining, x::historySize);
                Check.due("plants of " + made, made - states + remaining, x::plantCount);
            }
            Document.quote(12, "if the history is empty");
            Check.due("none remains of " + made, Thickets.BAD_STATE, x::undo);
            Check.due("plants stay", made - states, x::plantCount);
            Check.due("size stays", 0, x::historySize);
        }
    }

    /** More and more modifications with a few undone between them, so that the oldest place lies everywhere. */
    private static void roundAndRound() {
        Document.quote("HISTORY", "when one more is recorded, the oldest one is dropped");
        for (int undone : Thickets.upTo(7)) {
            ThornCores x = Thickets.of(2, "");
            Deque<Integer> due = new ArrayDeque<>();
            due.addLast(0);
            due.addLast(0);
            boolean bound = false;
            for (int round = 0; round < 14; round++) {
                for (int step = 0; step < 1 + round % 8; step++) {
                    due.addLast(bound ? 1 : 0);
                    bound = toggle(x, bound);
                }
                while (due.size() > 6) {
                    due.removeFirst();
                }
                for (int step = 0; step < undone && !due.isEmpty(); step++) {
                    int thorns = due.removeLast();
                    Check.due("remain", due.size(), x::undo);
                    Check.due("thorns", thorns, x::thornCount);
                    bound = thorns == 1;
                }
            }
        }
    }

    private static boolean toggle(ThornCores x, boolean bound) {
        if (x.plantCount() < 2) {
            x.plant();
            return false;
        }
        if (bound) {
            x.cut(0, 1);
        } else {
            x.bind(0, 1);
        }
        return !bound;
    }

    private static void undoRemoves() {
        Document.quote("HISTORY", "undo() removes and restores the latest one");
        Document.quote(12, "Restores the latest state of the history, and removes it from the history.");
        ThornCores x = Thickets.of(3, "");
        Check.due("first", 2, x::undo);
        Check.due("plants", 2, x::plantCount);
        Check.due("not to and fro", 1, x::undo);
        Check.due("plants", 1, x::plantCount);
        x.switchProp(0);
        Check.due("one more again", 2, x::historySize);
        x.undo();
        Check.due("prop undone", false, () -> x.isPropped(0));
        Check.due("last", 0, x::undo);
        Check.due("bare", 0, x::plantCount);
        Check.due("empty", Thickets.BAD_STATE, x::undo);
        Check.due("as new", 0, x::plant);
        Check.due("one state", 1, x::historySize);
    }

    private static void stateConsistsOf() {
        Document.quote("HISTORY", "A state consists of the plants, the thorns and the props.");
        ThornCores x = Thickets.prop(Thickets.complete(16), 0, 15);
        x.takeSnapshot();
        x.uproot(15);
        x.uproot(0);
        Thickets.write(x, "+");
        x.undo();
        x.undo();
        Check.due("plants", 16, x::plantCount);
        Check.due("thorns", 120, x::thornCount);
        Check.due("of a", 0xfffe, () -> x.neighbors(0));
        Check.due("of p", 0x7fff, () -> x.neighbors(15));
        Check.due("prop of a", true, () -> x.isPropped(0));
        Check.due("prop of p", true, () -> x.isPropped(15));
        Check.due("none of b", false, () -> x.isPropped(1));
        Check.due("the text is none of it", true, x::isValid);
        x.clearText();
        x.undo();
        Check.due("nor comes it back", 0, x::clearText);
        ThornCores y = new ThornCores();
        y.plant();
        y.takeSnapshot();
        y.undo();
        Check.due("the snapshot is none of it", 1, y::restoreSnapshot);
    }

    private static void modifications() {
        modification(2, "This is a modification.", ThornCores::plant);
        modification(3, "This is a modification.", x -> x.uproot(1));
        modification(4, "This is a modification.", x -> x.bind(0, 2));
        modification(5, "This is a modification.", x -> x.cut(0, 1));
        modification(6, "This is a modification.", x -> x.switchProp(0));
        modification(6, "This is a modification.", x -> x.switchProp(1));
        modification(7, "This is one modification.", ThornCores::change);
        modification(14, "This is a modification.", ThornCores::restoreSnapshot);
    }

    private static void modification(int promise, String words, Call call) {
        Document.quote("HISTORY", "Each method that is described as a modification records the state before it");
        Document.quote(promise, words);
        for (int states : new int[] {0, 1, 5, 6}) {
            ThornCores x = withStates(states);
            String before = Thickets.state(x);
            Check.due("states before", states, x::historySize);
            Check.answer(() -> call.on(x));
            Check.same("it does something", "false", String.valueOf(before.equals(Thickets.state(x))));
            int after = Math.min(states + 1, 6);
            Check.due("one more than " + states, after, x::historySize);
            Check.due("undone", after - 1, x::undo);
            Check.same("the state before", before, Thickets.state(x));
        }
    }

    /** Three plants in a row, the middle one propped up, a snapshot of one plant, and a list of changes. */
    private static ThornCores withStates(int states) {
        ThornCores x = Thickets.of(1, "");
        x.takeSnapshot();
        Thickets.write(x, "+,+,a-b,b-c,!b");
        x.change();
        // A history is emptied of what has been made only when six later states push it out, and are undone.
        for (int step = 0; step < 6; step++) {
            x.switchProp(2);
        }
        for (int step = 0; step < 6; step++) {
            x.undo();
        }
        for (int step = 0; step < states; step++) {
            x.switchProp(2);
        }
        return Thickets.write(x, "+,a-c");
    }

    private static void modificationsOfTheSameState() {
        Document.quote("HISTORY", "also if the state remains the same");
        for (int states : new int[] {0, 1, 5, 6}) {
            int after = Math.min(states + 1, 6);
            ThornCores changed = Thickets.write(withStates(states), "a-b,b/d,!d");
            sameState(changed, changed::change, 0, after);
            ThornCores restored = withStates(states);
            restored.takeSnapshot();
            sameState(restored, restored::restoreSnapshot, 3, after);
        }
        ThornCores bare = new ThornCores();
        bare.takeSnapshot();
        sameState(bare, bare::restoreSnapshot, 0, 1);
        ThornCores full = Thickets.write(Thickets.of(16, ""), "+");
        sameState(full, full::change, 0, 6);
        ThornCores toAndFro = Thickets.write(withStates(1), "!a,!a");
        sameState(toAndFro, toAndFro::change, 2, 2);
    }

    private static void sameState(ThornCores x, Callable<?> call, int due, int states) {
        String before = Thickets.state(x);
        Check.due("answer", due, call);
        Check.same("same state", before, Thickets.state(x));
        Check.due("but recorded", states, x::historySize);
        Check.due("undone", states - 1, x::undo);
        Check.same("and again the same", before, Thickets.state(x));
    }

    /** Whatever is not described as a modification, asked in thickets of many kinds, leaves all as it is. */
    private static void noModifications() {
        Document.quote("HISTORY", "Each method that is described as a modification records");
        List<Call> questions = questions();
        for (int plants : new int[] {0, 1, 2, 15, 16}) {
            String due = Thickets.drain(Thickets.lived(plants));
            for (int begin = 0; begin < questions.size(); begin += 100) {
                ThornCores x = Thickets.lived(plants);
                for (Call question : questions.subList(begin, Math.min(begin + 100, questions.size()))) {
                    Check.answer(() -> question.on(x));
                }
                Check.same("after questions to " + plants, due, Thickets.drain(x));
            }
        }
        ThornCores x = withStates(6);
        String before = Thickets.state(x);
        x.takeSnapshot();
        x.append(',');
        x.clearText();
        Check.due("nor is a snapshot or a text one", 6, x::historySize);
        Check.due("undo", 5, x::undo);
        x.switchProp(2);
        Check.same("of that switch", before, Thickets.state(x));
    }

    private static List<Call> questions() {
        List<Call> asked = new ArrayList<>(List.of(ThornCores::isValid, ThornCores::firstError, ThornCores::plantCount,
                ThornCores::thornCount, ThornCores::triangles, ThornCores::trianglesBySupport, ThornCores::colors,
                ThornCores::greatestCore));
        asked.addAll(List.of(ThornCores::averageNeighbors, ThornCores::historySize));
        for (int each : Thickets.upTo(16)) {
            asked.addAll(List.of(x -> x.core(each), x -> x.corePieces(each), x -> x.bestProp(each),
                    x -> x.trussSize(each), x -> x.wouldFall(each, 2), x -> x.wouldFall(0, each)));
            asked.addAll(List.of(x -> x.neighbors(each), x -> x.isPropped(each), x -> x.coreOf(each),
                    x -> x.coreByRounds(each), x -> x.placeOf(each), x -> x.colorOf(each)));
            asked.addAll(List.of(x -> x.support(each, each + 1), x -> x.trussOf(each, each + 1),
                    x -> x.trussByRounds(each, each + 1)));
        }
        return asked;
    }

    private static void snapshots() {
        Document.quote(13, "Takes a snapshot of the state, which replaces an earlier one.");
        Document.quote(13, "Returns the number of plants.");
        Document.quote(14, "Restores the state of the snapshot");
        Document.quote(14, "Returns the number of plants afterwards.");
        for (int plants : new int[] {0, 1, 15, 16}) {
            ThornCores x = Thickets.lived(plants);
            String due = Thickets.state(x);
            Check.due("taken", plants, x::takeSnapshot);
            Thickets.write(x, "+,a/b,!a,!b,a-c,+");
            x.change();
            if (plants > 0) {
                x.uproot(0);
            }
            Check.due("restored", plants, x::restoreSnapshot);
            Check.same("state", due, Thickets.state(x));
        }
        ThornCores x = Thickets.prop(Thickets.complete(16), 3);
        x.takeSnapshot();
        ThornCores fewer = Thickets.of(2, "ab");
        fewer.takeSnapshot();
        fewer.uproot(1);
        Check.due("a smaller one replaces it", 1, fewer::takeSnapshot);
        Check.due("and is restored", 1, fewer::restoreSnapshot);
        Check.due("without the thorn", 0, () -> fewer.neighbors(0));
        Check.due("each object has its own", 16, x::restoreSnapshot);
    }

    private static void snapshotStays() {
        Document.quote(14, "which is kept");
        ThornCores x = Thickets.prop(Thickets.of(3, "ab bc"), 1);
        x.takeSnapshot();
        String due = Thickets.state(x);
        for (int time = 0; time < 8; time++) {
            x.uproot(0);
            x.plant();
            x.switchProp(0);
            Check.due("each time", 3, x::restoreSnapshot);
            Check.same("the same", due, Thickets.state(x));
        }
        while (x.historySize() > 0) {
            x.undo();
        }
        Check.due("after the history", 3, x::restoreSnapshot);
        Check.same("the same", due, Thickets.state(x));
        x.undo();
        Check.due("undo takes the restoring back alone", 3, x::restoreSnapshot);
    }
}
