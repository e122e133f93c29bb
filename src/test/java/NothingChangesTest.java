import java.util.ArrayList;
import java.util.List;
import java.util.concurrent.Callable;

/** A call that throws changes nothing, and neither does a question: shown on a twin that is spared the call. */
public final class NothingChangesTest {
    public static void main(String[] args) {
        String due = Thickets.drain(full());
        List<Callable<?>> calls = new ArrayList<>();
        ThornCores x = full();
        calls.add(x::plant);
        calls.add(() -> x.append('+'));
        calls.add(x::change);
        calls.add(() -> x.uproot(16));
        calls.add(() -> x.bind(0, 16));
        calls.add(() -> x.bind(2, 2));
        calls.add(() -> x.bind(0, 1));
        calls.add(() -> x.cut(16, 0));
        calls.add(() -> x.cut(2, 2));
        calls.add(() -> x.cut(0, 3));
        calls.add(() -> x.switchProp(-1));
        addWrongQuestions(calls, x);
        for (Callable<?> call : calls) {
            Check.same("a call that must throw", "true", String.valueOf(Check.answer(call).endsWith("Exception")));
        }
        Check.same("after calls that throw", due, Thickets.drain(x));
        // A thicket of its own, as one object is used for at most 512 calls.
        ThornCores asked = full();
        ask(asked);
        Check.same("after questions", due, Thickets.drain(asked));
        bare();
        Check.finish();
    }

    private static void addWrongQuestions(List<Callable<?>> calls, ThornCores x) {
        calls.add(() -> x.neighbors(16));
        calls.add(() -> x.isPropped(16));
        calls.add(() -> x.core(16));
        calls.add(() -> x.coreOf(16));
        calls.add(() -> x.coreByRounds(16));
        calls.add(() -> x.placeOf(16));
        calls.add(() -> x.corePieces(-1));
        calls.add(() -> x.wouldFall(0, 16));
        calls.add(() -> x.bestProp(-1));
        calls.add(() -> x.support(0, 3));
        calls.add(() -> x.trussOf(0, 3));
        calls.add(() -> x.trussByRounds(0, 3));
        calls.add(() -> x.trussSize(16));
        calls.add(() -> x.colorOf(-1));
    }

    private static void ask(ThornCores x) {
        for (int k = 0; k <= 15; k += 3) {
            x.core(k);
            x.corePieces(k);
            x.trussSize(k);
            x.bestProp(k);
            x.wouldFall(k, k);
            x.coreByRounds(k);
        }
        x.trussOf(0, 1);
        x.trussByRounds(0, 1);
        x.support(0, 1);
    }

    private static void bare() {
        ThornCores x = new ThornCores();
        Check.due("undo", Thickets.BAD_STATE, x::undo);
        Check.due("restoreSnapshot", Thickets.BAD_STATE, x::restoreSnapshot);
        Check.due("change", Thickets.BAD_ARGUMENT, x::change);
        Check.due("bestProp", Thickets.NO_ELEMENT, () -> x.bestProp(0));
        Check.same("bare", Thickets.drain(new ThornCores()), Thickets.drain(x));
        ThornCores list = Thickets.written("+,!a");
        Check.due("firstError", Thickets.BAD_STATE, list::firstError);
        Check.same("list", Thickets.drain(Thickets.written("+,!a")), Thickets.drain(list));
    }

    /** Sixteen plants, a snapshot, a full history and a full text that is no list. */
    private static ThornCores full() {
        ThornCores x = Thickets.prop(Thickets.of(15, "ab bc ca de ef"), 7);
        x.takeSnapshot();
        x.plant();
        x.bind(15, 14);
        x.switchProp(3);
        StringBuilder text = new StringBuilder();
        while (text.length() < 60) {
            text.append("+,");
        }
        return Thickets.write(x, text.toString());
    }
}
