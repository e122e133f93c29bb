/** Promises 28 to 31: supports and trusses. */
public final class TrussesTest {
    /** Five plants all bound, a triangle at one of their thorns, a triangle at that one, and a thorn alone. */
    private static final String THORNS = "ab ac ad ae bc bd be cd ce de df ef eg fg gh";

    public static void main(String[] args) {
        supports();
        numbers();
        sizes();
        propsDoNotMatter();
        wrongArguments();
        Check.finish();
    }

    private static void supports() {
        ThornCores x = Thickets.of(9, THORNS);
        Check.due("28 ab", 3, () -> x.support(0, 1));
        Check.due("28 de", 4, () -> x.support(3, 4));
        Check.due("28 ed", 4, () -> x.support(4, 3));
        Check.due("28 ef", 2, () -> x.support(4, 5));
        Check.due("28 gh", 0, () -> x.support(6, 7));
        Check.due("28 all", 14, () -> Thickets.complete(16).support(15, 0));
    }

    private static void numbers() {
        ThornCores x = Thickets.of(9, THORNS);
        number(x, 0, 1, 3);
        number(x, 3, 4, 3);
        number(x, 4, 3, 3);
        number(x, 3, 5, 1);
        number(x, 5, 4, 1);
        number(x, 6, 5, 1);
        number(x, 6, 7, 0);
        x.cut(0, 1);
        number(x, 3, 4, 2);
        number(x, 0, 2, 2);
        x.cut(2, 3);
        number(x, 0, 2, 1);
        // The first round leaves 2 to ab.
        number(Thickets.of(6, "ab ac ae af bd be bf ce cf de df"), 0, 1, 1);
        ThornCores full = Thickets.complete(16);
        number(full, 0, 15, 14);
        number(Thickets.of(2, "ab"), 0, 1, 0);
    }

    private static void number(ThornCores x, int one, int two, int due) {
        Check.due("29 " + one + " " + two, due, () -> x.trussOf(one, two));
        Check.due("30 " + one + " " + two, due, () -> x.trussByRounds(one, two));
    }

    private static void sizes() {
        ThornCores x = Thickets.of(9, THORNS);
        Check.due("31 0", 15, () -> x.trussSize(0));
        Check.due("31 1", 14, () -> x.trussSize(1));
        Check.due("31 2", 10, () -> x.trussSize(2));
        Check.due("31 3", 10, () -> x.trussSize(3));
        Check.due("31 4", 0, () -> x.trussSize(4));
        Check.due("31 15", 0, () -> x.trussSize(15));
        Check.due("31 no plants", 0, () -> new ThornCores().trussSize(0));
        ThornCores full = Thickets.complete(16);
        Check.due("31 all", 120, () -> full.trussSize(14));
        Check.due("31 none", 0, () -> full.trussSize(15));
        Check.due("31 thorns stay", 120, full::thornCount);
        Check.due("31 smaller k afterwards", 120, () -> full.trussSize(3));
    }

    private static void propsDoNotMatter() {
        ThornCores x = Thickets.prop(Thickets.of(4, "ab bc ac cd"), 0, 1, 2, 3);
        number(x, 0, 1, 1);
        number(x, 2, 3, 0);
        Check.due("31 props", 3, () -> x.trussSize(1));
        Check.due("31 props, 2", 0, () -> x.trussSize(2));
    }

    private static void wrongArguments() {
        ThornCores x = Thickets.of(3, "ab");
        int[][] none = {{0, 3}, {3, 0}, {-1, 0}, {0, -1}, {3, 3}, {-1, -1}, {0, 33}, {Integer.MAX_VALUE, Integer.MIN_VALUE}};
        for (int[] pair : none) {
            Check.due("28 none", Thickets.NO_PLANT, () -> x.support(pair[0], pair[1]));
            Check.due("29 none", Thickets.NO_PLANT, () -> x.trussOf(pair[0], pair[1]));
            Check.due("30 none", Thickets.NO_PLANT, () -> x.trussByRounds(pair[0], pair[1]));
        }
        int[][] apart = {{0, 2}, {2, 1}, {0, 0}, {2, 2}};
        for (int[] pair : apart) {
            Check.due("28 not bound", Thickets.NO_ELEMENT, () -> x.support(pair[0], pair[1]));
            Check.due("29 not bound", Thickets.NO_ELEMENT, () -> x.trussOf(pair[0], pair[1]));
            Check.due("30 not bound", Thickets.NO_ELEMENT, () -> x.trussByRounds(pair[0], pair[1]));
        }
        for (int wrong : new int[] {-1, 16, Integer.MIN_VALUE, Integer.MAX_VALUE}) {
            Check.due("31 k " + wrong, Thickets.BAD_ARGUMENT, () -> x.trussSize(wrong));
        }
    }
}
