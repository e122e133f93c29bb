/** Promises 1 to 7, 12 to 18 and 36: changes, history, plants and thorns. */
public final class ChangesTest {
    public static void main(String[] args) {
        newObject();
        plant();
        uproot();
        bind();
        cut();
        switchProp();
        change();
        changeIsOneModification();
        undo();
        historyHoldsSix();
        modificationsThatChangeNothing();
        snapshot();
        counts();
        Check.finish();
    }

    private static void newObject() {
        ThornCores x = new ThornCores();
        Check.due("1 plants", 0, x::plantCount);
        Check.due("1 thorns", 0, x::thornCount);
        Check.due("1 history", 0, x::historySize);
        Check.due("1 text", 0, x::clearText);
        Check.due("1 snapshot", Thickets.BAD_STATE, x::restoreSnapshot);
        Check.due("1 core", 0, () -> x.core(0));
        ThornCores other = new ThornCores();
        x.plant();
        Check.due("1 objects are apart", 0, other::plantCount);
    }

    private static void plant() {
        ThornCores x = new ThornCores();
        for (int number = 0; number < 16; number++) {
            Check.due("2 number", number, x::plant);
        }
        Check.due("2 history", 6, x::historySize);
        Check.due("2 seventeenth", Thickets.BAD_STATE, x::plant);
        Check.due("2 count", 16, x::plantCount);
        Check.due("2 bare", 0, () -> x.neighbors(15));
        Check.due("2 not propped", false, () -> x.isPropped(15));
        x.uproot(3);
        Check.due("2 again", 15, x::plant);
    }

    private static void uproot() {
        ThornCores x = Thickets.prop(Thickets.of(5, "ab bc cd de ad"), 1, 3);
        Check.due("3 behind the last", Thickets.NO_PLANT, () -> x.uproot(5));
        Check.due("3 negative", Thickets.NO_PLANT, () -> x.uproot(-1));
        Check.due("3 gone", 3, () -> x.uproot(3));
        Check.due("3 count", 4, x::plantCount);
        Check.due("3 thorns", 2, x::thornCount);
        Check.due("3 neighbors of e, now d", 0, () -> x.neighbors(3));
        Check.due("3 d propped", false, () -> x.isPropped(3));
        Check.due("3 first", 1, () -> x.uproot(0));
        Check.due("3 b is a", 2, () -> x.neighbors(0));
        Check.due("3 c is b", 1, () -> x.neighbors(1));
        Check.due("3 prop of b went along", true, () -> x.isPropped(0));
        Check.due("3 prop is left behind", false, () -> x.isPropped(1));
        Check.due("3 last", 0, () -> x.uproot(2));
        x.plant();
        Check.due("3 new one is bare", 0, () -> x.neighbors(2));
        Check.due("3 number gone", Thickets.NO_PLANT, () -> x.uproot(3));
        ThornCores full = Thickets.complete(16);
        Check.due("3 of 16", 15, () -> full.uproot(15));
        Check.due("3 thorns of 15", 105, full::thornCount);
        Check.due("3 neighbors of 15", 0x7ffe, () -> full.neighbors(0));
        Check.due("3 first of 15", 14, () -> full.uproot(0));
        Check.due("3 neighbors of 14", 0x3ffe, () -> full.neighbors(0));
        Check.due("3 neighbors of the last", 0x1fff, () -> full.neighbors(13));
    }

    private static void bind() {
        ThornCores x = Thickets.of(4, "ab");
        Check.due("4 second neighbor", 2, () -> x.bind(1, 2));
        Check.due("4 first plant counts", 1, () -> x.bind(3, 1));
        Check.due("4 thorns", 3, x::thornCount);
        Check.due("4 both ways", 13, () -> x.neighbors(1));
        Check.due("4 the other", 2, () -> x.neighbors(3));
        Check.due("4 bound", Thickets.BAD_STATE, () -> x.bind(0, 1));
        Check.due("4 bound, turned", Thickets.BAD_STATE, () -> x.bind(1, 0));
        Check.due("4 same", Thickets.BAD_ARGUMENT, () -> x.bind(1, 1));
        Check.due("4 no first", Thickets.NO_PLANT, () -> x.bind(4, 0));
        Check.due("4 no second", Thickets.NO_PLANT, () -> x.bind(0, 4));
        Check.due("4 negative", Thickets.NO_PLANT, () -> x.bind(0, -1));
        Check.due("4 same, but none", Thickets.NO_PLANT, () -> x.bind(4, 4));
        Check.due("4 far", Thickets.NO_PLANT, () -> x.bind(Integer.MIN_VALUE, Integer.MAX_VALUE));
        Check.due("4 32 behind", Thickets.NO_PLANT, () -> x.bind(0, 34));
    }

    private static void cut() {
        ThornCores x = Thickets.of(4, "ab bc bd");
        Check.due("5 two remain", 2, () -> x.cut(1, 2));
        Check.due("5 none remains", 0, () -> x.cut(0, 1));
        Check.due("5 thorns", 1, x::thornCount);
        Check.due("5 neighbors", 8, () -> x.neighbors(1));
        Check.due("5 other's neighbors", 0, () -> x.neighbors(2));
        Check.due("5 one modification", 6, x::historySize);
        x.undo();
        Check.due("5 undone", 9, () -> x.neighbors(1));
        x.cut(0, 1);
        Check.due("5 not bound", Thickets.BAD_STATE, () -> x.cut(1, 2));
        Check.due("5 same", Thickets.BAD_ARGUMENT, () -> x.cut(2, 2));
        Check.due("5 no first", Thickets.NO_PLANT, () -> x.cut(4, 1));
        Check.due("5 no second", Thickets.NO_PLANT, () -> x.cut(1, 4));
        Check.due("5 negative", Thickets.NO_PLANT, () -> x.cut(-1, 1));
        Check.due("5 same, but none", Thickets.NO_PLANT, () -> x.cut(-1, -1));
    }

    private static void switchProp() {
        ThornCores x = Thickets.of(2, "ab");
        Check.due("6 up", true, () -> x.switchProp(1));
        Check.due("6 is up", true, () -> x.isPropped(1));
        Check.due("6 only that", false, () -> x.isPropped(0));
        Check.due("6 down", false, () -> x.switchProp(1));
        Check.due("6 is down", false, () -> x.isPropped(1));
        Check.due("6 none", Thickets.NO_PLANT, () -> x.switchProp(2));
        Check.due("6 negative", Thickets.NO_PLANT, () -> x.switchProp(-1));
        Check.due("6 history", 5, x::historySize);
    }

    private static void change() {
        ThornCores x = Thickets.written("a-b,+,a-b,+,a-b,b-a,b/c,!b,!c,!b,!a,a/b,a/b,b-a");
        Check.due("7 made", 8, x::change);
        Check.due("7 plants", 2, x::plantCount);
        Check.due("7 bound", 2, () -> x.neighbors(0));
        Check.due("7 a propped", true, () -> x.isPropped(0));
        Check.due("7 b turned twice", false, () -> x.isPropped(1));
        Check.due("7 text stays", 47, x::clearText);
        Check.due("7 empty", Thickets.BAD_ARGUMENT, x::change);
        Check.due("7 comma at the end", Thickets.BAD_ARGUMENT, () -> Thickets.write(x, "+,").change());
        Check.due("7 error", Thickets.BAD_ARGUMENT, () -> Thickets.write(x, "+,a-a").change());
        Check.due("7 beginning only", Thickets.BAD_ARGUMENT, () -> Thickets.write(x, "+,a-").change());
        Check.due("7 nothing made", 2, x::plantCount);
        Check.due("7 history", 1, x::historySize);

        ThornCores few = Thickets.of(2, "");
        Thickets.write(few, "a-c,c-a,d-c,a/c,c/a,c/d,!c,!p");
        Check.due("7 one plant is missing", 0, few::change);
        Check.due("7 no thorns to nothing", 0, few::thornCount);
        few.plant();
        Check.due("7 nothing waits for the plant", 0, () -> few.neighbors(2));
        Check.due("7 no prop waits for it", false, () -> few.isPropped(2));

        ThornCores full = Thickets.of(15, "");
        Thickets.write(full, "+,+,!p,a-p,+");
        Check.due("7 at most 16", 3, full::change);
        Check.due("7 16 plants", 16, full::plantCount);
        Check.due("7 p bound", 1, () -> full.neighbors(15));
    }

    private static void changeIsOneModification() {
        ThornCores x = Thickets.written("+,+,+,a-b,b-c,!a");
        x.change();
        Check.due("7 one state", 1, x::historySize);
        Check.due("7 undone", 0, x::undo);
        Check.due("7 bare again", 0, x::plantCount);
        Thickets.write(x, "a-b");
        Check.due("7 none possible", 0, x::change);
        Check.due("7 but a state", 1, x::historySize);
    }

    private static void undo() {
        ThornCores x = Thickets.of(2, "ab");
        x.switchProp(0);
        x.uproot(1);
        Thickets.write(x, "+");
        Check.due("12 uproot", 4, x::undo);
        Check.due("12 neighbors are back", 2, () -> x.neighbors(0));
        Check.due("12 prop", 3, x::undo);
        Check.due("12 prop is down", false, () -> x.isPropped(0));
        Check.due("12 bind", 2, x::undo);
        Check.due("12 no thorn", 0, x::thornCount);
        Check.due("12 text is kept", true, x::isValid);
        x.plant();
        Check.due("12 third", 2, x::undo);
        Check.due("12 second", 1, x::undo);
        Check.due("12 first", 0, x::undo);
        Check.due("12 no plants", 0, x::plantCount);
        Check.due("12 empty", Thickets.BAD_STATE, x::undo);
    }

    private static void historyHoldsSix() {
        ThornCores x = Thickets.of(9, "");
        Check.due("36 six", 6, x::historySize);
        for (int remaining = 5; remaining >= 0; remaining--) {
            Check.due("36 undo", remaining, x::undo);
            Check.due("36 plants", remaining + 3, x::plantCount);
            Check.due("36 size", remaining, x::historySize);
        }
        Check.due("36 oldest are dropped", Thickets.BAD_STATE, x::undo);
        x.plant();
        x.plant();
        Check.due("36 after the ring turned", 2, x::historySize);
        x.undo();
        Check.due("36 plants after it", 4, x::plantCount);
    }

    private static void modificationsThatChangeNothing() {
        ThornCores x = new ThornCores();
        x.takeSnapshot();
        Check.due("36 snapshot is none", 0, x::historySize);
        x.restoreSnapshot();
        Check.due("36 restore is one", 1, x::historySize);
        x.append('+');
        x.isValid();
        x.clearText();
        Check.due("36 text is none", 1, x::historySize);
        Check.answer(x::firstError);
        Check.answer(x::change);
        Check.answer(() -> x.uproot(0));
        Check.due("36 none by what throws", 1, x::historySize);
    }

    private static void snapshot() {
        ThornCores x = Thickets.prop(Thickets.of(3, "ab bc"), 2);
        Check.due("14 none", Thickets.BAD_STATE, x::restoreSnapshot);
        Check.due("13 plants", 3, x::takeSnapshot);
        x.uproot(0);
        x.plant();
        x.plant();
        x.switchProp(0);
        Check.due("14 plants", 3, x::restoreSnapshot);
        Check.due("14 neighbors", 5, () -> x.neighbors(1));
        Check.due("14 prop", true, () -> x.isPropped(2));
        Check.due("14 no prop", false, () -> x.isPropped(0));
        Check.due("14 undo", 5, x::undo);
        Check.due("14 state before", 4, x::plantCount);
        Check.due("14 kept", 3, x::restoreSnapshot);
        x.plant();
        Check.due("13 replaced", 4, x::takeSnapshot);
        x.uproot(0);
        Check.due("14 the later one", 4, x::restoreSnapshot);
        x.undo();
        x.undo();
        x.undo();
        Check.due("14 not undone", 4, x::restoreSnapshot);
    }

    private static void counts() {
        ThornCores x = Thickets.prop(Thickets.of(4, "ab ac ad cd"), 3);
        Check.due("15 plants", 4, x::plantCount);
        Check.due("16 thorns", 4, x::thornCount);
        Check.due("17 of a", 14, () -> x.neighbors(0));
        Check.due("17 of b", 1, () -> x.neighbors(1));
        Check.due("17 none", Thickets.NO_PLANT, () -> x.neighbors(4));
        Check.due("17 negative", Thickets.NO_PLANT, () -> x.neighbors(-1));
        Check.due("18 propped", true, () -> x.isPropped(3));
        Check.due("18 not propped", false, () -> x.isPropped(0));
        Check.due("18 none", Thickets.NO_PLANT, () -> x.isPropped(4));
        Check.due("18 negative", Thickets.NO_PLANT, () -> x.isPropped(-1));
        ThornCores full = Thickets.complete(16);
        Check.due("16 all", 120, full::thornCount);
        Check.due("17 all", 0xfffe, () -> full.neighbors(0));
        Check.due("17 all of the last", 0x7fff, () -> full.neighbors(15));
    }
}
