/** Makes thickets for the tests. */
final class Thickets {
    static final String NO_PLANT = "IndexOutOfBoundsException";
    static final String BAD_ARGUMENT = "IllegalArgumentException";
    static final String BAD_STATE = "IllegalStateException";
    static final String NO_ELEMENT = "NoSuchElementException";

    private Thickets() {
    }

    /** A thicket with some plants, and thorns told as "ab bc": the names of two plants each. */
    static ThornCores of(int plants, String thorns) {
        ThornCores made = new ThornCores();
        for (int plant = 0; plant < plants; plant++) {
            made.plant();
        }
        for (String thorn : thorns.isEmpty() ? new String[0] : thorns.split(" ")) {
            made.bind(thorn.charAt(0) - 'a', thorn.charAt(1) - 'a');
        }
        return made;
    }

    static ThornCores complete(int plants) {
        ThornCores made = of(plants, "");
        for (int one = 0; one < plants; one++) {
            for (int two = one + 1; two < plants; two++) {
                made.bind(one, two);
            }
        }
        return made;
    }

    static ThornCores prop(ThornCores made, int... plants) {
        for (int plant : plants) {
            made.switchProp(plant);
        }
        return made;
    }

    static ThornCores write(ThornCores made, String text) {
        made.clearText();
        for (int place = 0; place < text.length(); place++) {
            made.append(text.charAt(place));
        }
        return made;
    }

    static ThornCores written(String text) {
        return write(new ThornCores(), text);
    }

    /** Sixteen plants in a ring, each bound to the next ones up to a reach of 1 to 7. */
    static ThornCores ring(int reach) {
        ThornCores made = of(16, "");
        for (int plant = 0; plant < 16; plant++) {
            for (int step = 1; step <= reach; step++) {
                made.bind(plant, (plant + step) % 16);
            }
        }
        return made;
    }

    /** Plants in a row, each bound to the next, the odd ones propped up; a snapshot, a history and a text. */
    static ThornCores lived(int plants) {
        ThornCores made = new ThornCores();
        for (int plant = 0; plant < plants; plant++) {
            if (plant == plants / 2) {
                made.takeSnapshot();
            }
            made.plant();
            if (plant > 0) {
                made.bind(plant - 1, plant);
            }
            if (plant % 2 == 1) {
                made.switchProp(plant);
            }
        }
        return write(made, "+,a-c,!b");
    }

    static ThornCores allPropped(int plants) {
        return prop(of(plants, ""), upTo(plants));
    }

    static int[] upTo(int bound) {
        int[] numbers = new int[bound];
        for (int number = 0; number < bound; number++) {
            numbers[number] = number;
        }
        return numbers;
    }

    /** Numbers that no plant has, among them those that are 0 or the last plant's again in a shift. */
    static int[] notPlants(int plants) {
        return new int[] {-1, -2, -16, -32, plants, plants + 1, plants + 31, 16, 17, 32, 64, 256, 65536,
            Integer.MAX_VALUE, Integer.MIN_VALUE, Integer.MIN_VALUE + 1};
    }

    /** Numbers just behind the edges of 0 to 15, and some that wrap around to one in it. */
    static int[] notK() {
        return new int[] {-1, 16, -2, 17, 32, 256, 65536, Integer.MAX_VALUE, Integer.MIN_VALUE};
    }

    /** The state alone: the plants, each with its neighbors and its prop. */
    static String state(ThornCores x) {
        StringBuilder seen = new StringBuilder();
        int plants = x.plantCount();
        for (int plant = 0; plant < plants; plant++) {
            seen.append(' ').append(x.neighbors(plant)).append(x.isPropped(plant) ? "!" : "");
        }
        return seen.toString();
    }

    /** The state, the history's size and the text; an object is used for at most 512 calls, so it asks few. */
    static String look(ThornCores x) {
        String text = Check.answer(x::firstError);
        return x.historySize() + " states, " + x.thornCount() + " thorns, error " + text + ", plants" + state(x);
    }

    /** Everything that can be found out, the history, the snapshot and the text among it; the thicket is used up. */
    static String drain(ThornCores x) {
        StringBuilder seen = new StringBuilder(look(x));
        while (x.historySize() > 0) {
            x.undo();
            seen.append(" back to ").append(look(x));
        }
        seen.append(" snapshot ").append(Check.answer(x::restoreSnapshot)).append(' ').append(look(x));
        seen.append(" text ").append(Check.answer(x::change)).append(' ').append(look(x));
        seen.append(" of ").append(x.clearText());
        return seen.toString();
    }
}
