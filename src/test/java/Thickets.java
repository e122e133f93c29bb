/** Makes thickets for the tests. */
final class Thickets {
    static final String NO_PLANT = "IndexOutOfBoundsException";
    static final String BAD_ARGUMENT = "IllegalArgumentException";
    static final String BAD_STATE = "IllegalStateException";
    static final String NO_ELEMENT = "NoSuchElementException";

    private Thickets() {
    }

    /** A thicket with some plants, and thorns told as "ab bc": the names of two plants each. */
    static ThornCores of(int plants, String thorns) {
        ThornCores made = new ThornCores();
        for (int plant = 0; plant < plants; plant++) {
            made.plant();
        }
        for (String thorn : thorns.isEmpty() ? new String[0] : thorns.split(" ")) {
            made.bind(thorn.charAt(0) - 'a', thorn.charAt(1) - 'a');
        }
        return made;
    }

    static ThornCores complete(int plants) {
        ThornCores made = of(plants, "");
        for (int one = 0; one < plants; one++) {
            for (int two = one + 1; two < plants; two++) {
                made.bind(one, two);
            }
        }
        return made;
    }

    static ThornCores prop(ThornCores made, int... plants) {
        for (int plant : plants) {
            made.switchProp(plant);
        }
        return made;
    }

    static ThornCores write(ThornCores made, String text) {
        made.clearText();
        for (int place = 0; place < text.length(); place++) {
            made.append(text.charAt(place));
        }
        return made;
    }

    static ThornCores written(String text) {
        return write(new ThornCores(), text);
    }

    /** The state, the history's size and the text, with few calls, as an object is used for at most 512. */
    static String look(ThornCores x) {
        StringBuilder seen = new StringBuilder();
        seen.append(x.plantCount()).append(' ').append(x.thornCount()).append(' ').append(x.historySize());
        seen.append(' ').append(x.isValid()).append(' ').append(Check.answer(x::firstError));
        // In a thicket that is not dense the propped plants alone are in the 15-core.
        seen.append(" props ").append(x.core(15)).append(" neighbors");
        int plants = x.plantCount();
        for (int plant = 0; plant < plants; plant++) {
            seen.append(' ').append(x.neighbors(plant));
        }
        return seen.toString();
    }

    /** Everything that can be found out, the history, the snapshot and the text among it; the thicket is used up. */
    static String drain(ThornCores x) {
        StringBuilder seen = new StringBuilder(look(x));
        seen.append(" text ").append(x.clearText());
        while (x.historySize() > 0) {
            x.undo();
            seen.append(" back to ").append(look(x));
        }
        seen.append(" snapshot ").append(Check.answer(x::restoreSnapshot)).append(' ').append(look(x));
        return seen.toString();
    }
}
