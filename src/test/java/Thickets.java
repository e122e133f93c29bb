/** Makes thickets for the tests. */
final class Thickets {
    static final String NO_PLANT = "IndexOutOfBoundsException";
    static final String BAD_ARGUMENT = "IllegalArgumentException";
    static final String BAD_STATE = "IllegalStateException";
    static final String NO_ELEMENT = "NoSuchElementException";

    private Thickets() {
    }

    /** A thicket with some plants, and thorns told as "ab bc": the names of two plants each. */
    static ThornCores of(int plants, String thorns) {
        ThornCores made = new ThornCores();
        for (int plant = 0; plant < plants; plant++) {
            made.plant();
        }
        for (String thorn : thorns.isEmpty() ? new String[0] : thorns.split(" ")) {
            made.bind(thorn.charAt(0) - 'a', thorn.charAt(1) - 'a');
        }
        return made;
    }

    static ThornCores complete(int plants) {
        ThornCores made = of(plants, "");
        for (int one = 0; one < plants; one++) {
            for (int two = one + 1; two < plants; two++) {
                made.bind(one, two);
            }
        }
        return made;
    }

    static ThornCores prop(ThornCores made, int... plants) {
        for (int plant : plants) {
            made.switchProp(plant);
        }
        return made;
    }

    static ThornCores write(ThornCores made, String text) {
        made.clearText();
        for (int place = 0; place < text.length(); place++) {
            made.append(text.charAt(place));
        }
        return made;
    }

    static ThornCores written(String text) {
        return write(new ThornCores(), text);
    }

    /** Everything that can be asked without a change. */
    static String look(ThornCores x) {
        StringBuilder seen = new StringBuilder();
        seen.append(x.plantCount()).append(' ').append(x.thornCount()).append(' ').append(x.historySize());
        seen.append(' ').append(x.isValid()).append(' ').append(Check.answer(x::firstError));
        seen.append(' ').append(x.triangles()).append(' ').append(x.trianglesBySupport());
        seen.append(' ').append(x.colors()).append(' ').append(x.greatestCore()).append(' ').append(x.averageNeighbors());
        for (int plant = 0; plant < x.plantCount(); plant++) {
            seen.append(" | ").append(x.neighbors(plant)).append(' ').append(x.isPropped(plant));
            seen.append(' ').append(x.coreOf(plant)).append(' ').append(x.placeOf(plant)).append(' ').append(x.colorOf(plant));
        }
        return seen.toString();
    }

    /** Everything that can be found out, the history, the snapshot and the text among it; the thicket is used up. */
    static String drain(ThornCores x) {
        StringBuilder seen = new StringBuilder(look(x));
        seen.append(" text ").append(x.clearText());
        while (x.historySize() > 0) {
            x.undo();
            seen.append(" back to ").append(look(x));
        }
        seen.append(" snapshot ").append(Check.answer(x::restoreSnapshot)).append(' ').append(look(x));
        return seen.toString();
    }
}
