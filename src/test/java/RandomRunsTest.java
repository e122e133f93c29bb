/** Long runs of calls, drawn by a small generator that is always the same, against the model. */
public final class RandomRunsTest {
    private static final String[] CHANGES = {"plant", "uproot", "bind", "cut", "switchProp", "change", "append",
        "clearText", "undo", "takeSnapshot", "restoreSnapshot"};
    private static final String[] QUESTIONS = {"isValid", "firstError", "plantCount", "thornCount", "neighbors",
        "isPropped", "triangles", "trianglesBySupport", "core", "coreOf", "coreByRounds", "placeOf", "corePieces",
        "wouldFall", "bestProp", "support", "trussOf", "trussByRounds", "trussSize", "colorOf", "colors",
        "greatestCore", "averageNeighbors", "historySize"};
    private static final String[] PLANT_FIRST = {"uproot", "bind", "cut", "switchProp", "neighbors", "isPropped", "coreOf",
        "coreByRounds", "placeOf", "wouldFall", "support", "trussOf", "trussByRounds", "colorOf"};
    private static final String SIGNS = "+!-/,,abcdefghijklmnopq";
    private static final int RUNS = 240;
    private static final int CALLS = 512;

    private long seed;
    private final ThornCores thicket = new ThornCores();
    private final Model model = new Model();
    private final StringBuilder told = new StringBuilder();
    private int plants = 0;
    private int calls = 0;

    private RandomRunsTest(long seed) {
        this.seed = seed;
    }

    public static void main(String[] args) {
        for (int run = 0; run < RUNS && Check.wrong() == 0; run++) {
            new RandomRunsTest(run * 7919L + 17).run(run % 4);
        }
        Check.finish();
    }

    private int draw(int bound) {
        seed = seed * 6364136223846793005L + 1442695040888963407L;
        return (int) ((seed >>> 33) % bound);
    }

    /** Kind 0 draws all calls alike; the others first make a thicket, the denser the greater the kind. */
    private void run(int kind) {
        int wanted = kind == 0 ? 0 : 4 + draw(13);
        while (plants < wanted) {
            call("plant", 0, 0);
            plants++;
        }
        for (int one = 0; one < plants; one++) {
            for (int two = one + 1; two < plants; two++) {
                if (draw(5) < kind + 1) {
                    call("bind", two, one);
                }
            }
        }
        while (calls < CALLS && Check.wrong() == 0) {
            step(kind);
        }
    }

    private void step(int kind) {
        if (draw(kind == 0 ? 2 : 6) == 0) {
            String name = CHANGES[draw(CHANGES.length)];
            if (kind > 0 && name.equals("uproot") && draw(3) > 0) {
                name = "plant";
            }
            if (name.equals("append")) {
                append();
            } else {
                callDrawn(name);
            }
            plants = (Integer) model.call("plantCount", 0, 0);
        } else {
            callDrawn(QUESTIONS[draw(QUESTIONS.length)]);
        }
    }

    private void callDrawn(String name) {
        int one = java.util.Arrays.asList(PLANT_FIRST).contains(name) ? drawPlant() : draw(20) - 2;
        int two = name.equals("wouldFall") ? draw(7) == 0 ? draw(20) - 2 : draw(6) : drawPlant();
        if (one >= 0 && draw(3) > 0 && (name.equals("core") || name.equals("corePieces") || name.startsWith("bestP"))) {
            one = one % 6;
        }
        call(name, one, two);
    }

    private int drawPlant() {
        return draw(12) == 0 || plants == 0 ? draw(20) - 2 : draw(plants);
    }

    /** Mostly whole changes, so that lists come about; now and then any character. */
    private void append() {
        int kind = draw(12);
        if (kind == 0) {
            call("append", SIGNS.charAt(draw(SIGNS.length())), 0);
        } else if (kind == 1) {
            call("append", draw(70000), 0);
        } else {
            if (draw(3) == 0) {
                call("clearText", 0, 0);
            } else {
                call("append", ',', 0);
            }
            appendAll(drawChange(kind));
        }
    }

    private String drawChange(int kind) {
        char one = (char) ('a' + draw(16));
        char two = (char) ('a' + draw(16));
        if (kind < 4) {
            return "+";
        }
        if (kind < 6) {
            return "!" + one;
        }
        return one + (kind < 9 ? "-" : "/") + two;
    }

    private void appendAll(String change) {
        for (int place = 0; place < change.length(); place++) {
            call("append", change.charAt(place), 0);
        }
        if (draw(2) == 0) {
            call("change", 0, 0);
        }
    }

    private void call(String name, int one, int two) {
        if (calls == CALLS) {
            return;
        }
        calls++;
        told.append(name).append('(').append(one).append(',').append(two).append(") ");
        String want = Check.answer(() -> model.call(name, one, two));
        String got = Check.answer(() -> ask(name, one, two));
        if (!want.equals(got)) {
            Check.same(told.toString(), want, got);
        }
    }

    private Object ask(String name, int one, int two) {
        switch (name) {
            case "plant": return thicket.plant();
            case "uproot": return thicket.uproot(one);
            case "bind": return thicket.bind(one, two);
            case "cut": return thicket.cut(one, two);
            case "switchProp": return thicket.switchProp(one);
            case "change": return thicket.change();
            case "append": return thicket.append((char) one);
            case "clearText": return thicket.clearText();
            case "isValid": return thicket.isValid();
            case "firstError": return thicket.firstError();
            case "undo": return thicket.undo();
            case "takeSnapshot": return thicket.takeSnapshot();
            case "restoreSnapshot": return thicket.restoreSnapshot();
            case "plantCount": return thicket.plantCount();
            case "thornCount": return thicket.thornCount();
            case "neighbors": return thicket.neighbors(one);
            case "isPropped": return thicket.isPropped(one);
            default: return askCores(name, one, two);
        }
    }

    private Object askCores(String name, int one, int two) {
        switch (name) {
            case "triangles": return thicket.triangles();
            case "trianglesBySupport": return thicket.trianglesBySupport();
            case "core": return thicket.core(one);
            case "coreOf": return thicket.coreOf(one);
            case "coreByRounds": return thicket.coreByRounds(one);
            case "placeOf": return thicket.placeOf(one);
            case "corePieces": return thicket.corePieces(one);
            case "wouldFall": return thicket.wouldFall(one, two);
            case "bestProp": return thicket.bestProp(one);
            case "support": return thicket.support(one, two);
            case "trussOf": return thicket.trussOf(one, two);
            case "trussByRounds": return thicket.trussByRounds(one, two);
            case "trussSize": return thicket.trussSize(one);
            case "colorOf": return thicket.colorOf(one);
            case "colors": return thicket.colors();
            case "greatestCore": return thicket.greatestCore();
            case "averageNeighbors": return thicket.averageNeighbors();
            case "historySize": return thicket.historySize();
            default: throw new AssertionError(name);
        }
    }
}
