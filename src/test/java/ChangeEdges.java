/** The edges of promise 7: the changes of the text buffer. */
final class ChangeEdges {
    private ChangeEdges() {
    }

    static void test() {
        eachKind();
        oneAfterTheOther();
        leftOut();
        fullThicket();
        fullBuffer();
        bufferStays();
        oneModification();
    }

    private static void eachKind() {
        Document.quote("TEXT", "\"+\" (a plant is planted)");
        ThornCores x = Thickets.written("+");
        Check.due("plant", 1, x::change);
        Check.due("planted", 1, x::plantCount);
        ThornCores y = Thickets.of(16, "");
        Document.quote("TEXT", "a name, \"-\" and a name other than the first one (the two are bound)");
        Thickets.write(y, "a-p,o-b");
        Check.due("bind", 2, y::change);
        Check.due("a and p", 0x8000, () -> y.neighbors(0));
        Check.due("p and a", 1, () -> y.neighbors(15));
        Check.due("b and o", 0x4000, () -> y.neighbors(1));
        Check.due("o and b", 2, () -> y.neighbors(14));
        Document.quote("TEXT", "a name, \"/\" and a name other than the first one (their thorn is cut)");
        Thickets.write(y, "p/a");
        Check.due("cut", 1, y::change);
        Check.due("a free", 0, () -> y.neighbors(0));
        Check.due("p free", 0, () -> y.neighbors(15));
        Document.quote("TEXT", "\"!\" and a name (the plant is propped up, or not any more if it is)");
        Thickets.write(y, "!a,!p,!h");
        Check.due("prop", 3, y::change);
        Check.due("propped", 0x8081, () -> y.core(15));
        Check.due("again", 3, y::change);
        Check.due("not any more", 0, () -> y.core(15));
    }

    private static void oneAfterTheOther() {
        Document.quote(7, "Makes the changes of the text buffer, one after the other");
        Document.quote(7, "Returns the number of changes that are not left out.");
        change(0, "+,!a", 2, "1 0 1 0 1 0!");
        change(0, "!a,+", 1, "1 0 1 0 1 0");
        change(1, "+,a-b", 2, "2 1 1 0 1 2 1");
        change(1, "a-b,+", 1, "2 0 1 0 1 0 0");
        change(2, "a-b,a/b", 2, "2 0 1 0 1 0 0");
        change(2, "a/b,a-b", 1, "2 1 1 0 1 2 1");
        change(2, "a-b,a/b,b-a", 3, "2 1 1 0 1 2 1");
        change(1, "!a,!a", 2, "1 0 1 0 1 0");
        change(1, "!a,!a,!a", 3, "1 0 1 0 1 0!");
    }

    /** The look after the change: plants, thorns, states, error, error, and each plant. */
    private static void change(int plants, String text, int made, String due) {
        ThornCores x = Thickets.of(plants, "");
        Thickets.write(x, text);
        Check.due(text, made, x::change);
        StringBuilder seen = new StringBuilder();
        seen.append(x.plantCount()).append(' ').append(x.thornCount()).append(' ').append(x.historySize() - plants);
        seen.append(" 0 1");
        for (int plant = 0; plant < x.plantCount(); plant++) {
            seen.append(' ').append(x.neighbors(plant)).append(x.isPropped(plant) ? "!" : "");
        }
        Check.same(text, due, seen.toString());
    }

    private static void leftOut() {
        Document.quote(7, "those that are not possible are left out");
        leftOut(0, "", "!a,!p,a-b,b/a,p-o");
        leftOut(1, "", "a-b,b-a,a/b,b/a,!b");
        leftOut(2, "ab", "a-b,b-a,a-c,c-a,c/b,b/c,!c,c-d");
        leftOut(2, "", "a/b,b/a");
        leftOut(15, "", "a-p,p-a,a/p,p/a,!p,o-p");
        leftOut(16, "", "+,+,a/p,+");
    }

    private static void leftOut(int plants, String thorns, String text) {
        ThornCores x = Thickets.write(Thickets.of(plants, thorns), text);
        Check.due(text, 0, x::change);
        x.undo();
        Check.due(text + ", plants", plants, x::plantCount);
        ThornCores y = Thickets.write(Thickets.of(plants, thorns), text);
        y.change();
        Check.due(text + ", thorns", thorns.length() / 2, y::thornCount);
        Check.due(text + ", plants", plants, y::plantCount);
        Check.due(text + ", props", 0, () -> y.core(15));
        while (y.plantCount() < 16) {
            y.plant();
        }
        Check.due(text + ", nothing waits for plants", thorns.length() / 2, y::thornCount);
        Check.due(text + ", nor a prop", 0, () -> y.core(15));
    }

    private static void fullThicket() {
        Document.quote("PLANTS, THORNS", "There are at most 16 plants");
        String pluses = "+,".repeat(29) + "+";
        int[] before = {0, 14, 15, 16};
        int[] made = {16, 2, 1, 0};
        for (int each : Thickets.upTo(before.length)) {
            ThornCores x = Thickets.write(Thickets.of(before[each], ""), pluses);
            Check.due("30 from " + before[each], made[each], x::change);
            Check.due("plants", 16, x::plantCount);
        }
        ThornCores last = Thickets.write(Thickets.of(15, ""), "!p,+,!p,+,o-p");
        Check.due("p comes in time", 3, last::change);
        Check.due("p", 0x4000, () -> last.neighbors(15));
        Check.due("p propped", true, () -> last.isPropped(15));
    }

    private static void fullBuffer() {
        Document.quote("TEXT", "There is a text buffer of at most 60 characters");
        // Sixty characters, and the last change reaches to the last of them.
        ThornCores x = Thickets.written("+,".repeat(25) + "!a,a-b,o-p");
        Check.due("full", Thickets.BAD_STATE, () -> x.append(','));
        Check.due("list", true, x::isValid);
        Check.due("made", 19, x::change);
        Check.due("the last one too", 0x4000, () -> x.neighbors(15));
        Check.due("length", 60, x::clearText);
    }

    private static void bufferStays() {
        Document.quote(7, "The buffer is not changed.");
        ThornCores x = Thickets.written("+,+,a-b,!b");
        Check.due("first", 4, x::change);
        Check.due("list", true, x::isValid);
        Check.due("second", 3, x::change);
        Check.due("goes on behind it", 11, () -> x.append(','));
        Check.due("goes on", 11, x::firstError);
        Check.due("length", 11, x::clearText);
    }

    private static void oneModification() {
        Document.quote(7, "This is one modification.");
        ThornCores x = Thickets.prop(Thickets.of(3, "ab"), 2);
        Thickets.write(x, "+,a/b,b-c,!a,!c,d-a");
        Check.due("history before", 5, x::historySize);
        Check.due("made", 6, x::change);
        Check.due("one state", 6, x::historySize);
        Check.due("undone", 5, x::undo);
        Check.due("plants", 3, x::plantCount);
        Check.due("thorns", 2, () -> x.neighbors(0));
        Check.due("props", 4, () -> x.core(15));
        x.change();
        x.change();
        Check.due("full history", 6, x::historySize);
        for (int remaining = 5; remaining >= 0; remaining--) {
            Check.due("undo", remaining, x::undo);
        }
        Check.due("one state each was dropped", 1, x::plantCount);
    }
}
