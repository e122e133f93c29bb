/** An object right up to its 512th call. */
final class LongUse {
    private LongUse() {
    }

    static void test() {
        Document.quote("512 calls", "An object is used for at most 512 calls after it has been made");
        refusedCalls();
        modifications();
        texts();
    }

    private static void refusedCalls() {
        ThornCores x = new ThornCores();
        for (int call = 1; call <= 511; call++) {
            Check.due("call " + call, Thickets.BAD_STATE, x::undo);
        }
        Check.due("call 512", 0, x::plant);
    }

    private static void modifications() {
        ThornCores x = Thickets.complete(16);
        boolean bound = true;
        for (int call = 137; call <= 510; call++) {
            int due = bound ? 14 : 15;
            boolean wasBound = bound;
            Check.due("call " + call, due, () -> wasBound ? x.cut(0, 15) : x.bind(0, 15));
            bound = !bound;
        }
        Check.due("call 511", 5, x::undo);
        Check.due("call 512", 119, x::thornCount);
    }

    private static void texts() {
        ThornCores x = new ThornCores();
        for (int round = 0; round < 8; round++) {
            for (int length = 1; length <= 60; length++) {
                int due = length;
                Check.due("length", due, () -> x.append(due % 2 == 1 ? '+' : ','));
            }
            Check.due("full", 60, x::firstError);
            Check.due("had", 60, x::clearText);
        }
        for (int length = 1; length <= 14; length++) {
            int due = length;
            Check.due("length", due, () -> x.append(due % 2 == 1 ? '+' : ','));
        }
        Check.due("call 511", 14, x::clearText);
        Check.due("call 512", false, x::isValid);
    }
}
