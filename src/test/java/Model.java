import java.util.ArrayDeque;
import java.util.ArrayList;
import java.util.Deque;
import java.util.List;
import java.util.Set;
import java.util.TreeMap;
import java.util.TreeSet;
import java.util.function.IntPredicate;
import java.util.regex.Pattern;

/** The document once more, in other words than the class's: names for plants, sets of names for thorns. */
final class Model {
    private static final Pattern LIST;

    static {
        String change = "(?:\\+|!([a-p])|([a-p])[-/](?!\\2)[a-p])";
        LIST = Pattern.compile(change + "(?:," + change.replace("\\2", "\\4") + ")*");
    }

    /** Each plant has an object of its own, so that numbers are nothing but places in the list. */
    private static final class Plant {
        boolean propped;
        final Set<Integer> bound = new TreeSet<>();
        final int id;

        Plant(int id) {
            this.id = id;
        }

        Plant copy() {
            Plant copy = new Plant(id);
            copy.propped = propped;
            copy.bound.addAll(bound);
            return copy;
        }
    }

    private List<Plant> plants = new ArrayList<>();
    private int nextId = 0;
    private String text = "";
    private final Deque<List<Plant>> history = new ArrayDeque<>();
    private List<Plant> snapshot = null;

    private static List<Plant> copy(List<Plant> state) {
        List<Plant> copy = new ArrayList<>();
        for (Plant plant : state) {
            copy.add(plant.copy());
        }
        return copy;
    }

    private void record() {
        history.addLast(copy(plants));
        if (history.size() > 6) {
            history.removeFirst();
        }
    }

    private Plant get(int plant) {
        if (plant < 0 || plant >= plants.size()) {
            throw new IndexOutOfBoundsException();
        }
        return plants.get(plant);
    }

    private boolean bound(int one, int two) {
        return get(one).bound.contains(get(two).id);
    }

    private void checkK(int k) {
        if (k < 0 || k > 15) {
            throw new IllegalArgumentException();
        }
    }

    Object call(String name, int one, int two) {
        switch (name) {
            case "plant": return plant();
            case "uproot": return uproot(one);
            case "bind": return tie(one, two, true);
            case "cut": return tie(one, two, false);
            case "switchProp": return switchProp(one);
            case "change": return change();
            case "append": return append((char) one);
            case "clearText": return clearText();
            case "isValid": return LIST.matcher(text).matches();
            case "firstError": return firstError();
            case "undo": return undo();
            case "takeSnapshot": snapshot = copy(plants); return plants.size();
            case "restoreSnapshot": return restoreSnapshot();
            case "plantCount": return plants.size();
            case "thornCount": return thorns().size();
            case "neighbors": return neighbors(one);
            case "isPropped": return get(one).propped;
            case "triangles": return triangles();
            case "trianglesBySupport": return triangles();
            case "core": return mask(core(one));
            case "coreOf": return coreNumber(one);
            case "coreByRounds": return coreNumber(one);
            case "placeOf": get(one); return order().indexOf(one);
            case "corePieces": return pieces(core(one));
            case "wouldFall": return wouldFall(one, two);
            case "bestProp": return bestProp(one);
            case "support": checkThorn(one, two); return support(one, two, thorns());
            case "trussOf": return trussNumber(one, two);
            case "trussByRounds": return trussNumber(one, two);
            case "trussSize": checkK(one); return truss(one).size();
            case "colorOf": get(one); return colorMap().get(one);
            case "colors": return new TreeSet<>(colorMap().values()).size();
            case "greatestCore": return greatestCore();
            case "averageNeighbors":
                return plants.isEmpty() ? 0.0f : (float) (2 * thorns().size()) / plants.size();
            case "historySize": return history.size();
            default: throw new AssertionError(name);
        }
    }

    // ---- changes

    private int plant() {
        if (plants.size() == 16) {
            throw new IllegalStateException();
        }
        record();
        plants.add(new Plant(nextId++));
        return plants.size() - 1;
    }

    private int uproot(int number) {
        Plant gone = get(number);
        record();
        gone = plants.remove(number);
        for (Plant plant : plants) {
            plant.bound.remove(gone.id);
        }
        return gone.bound.size();
    }

    private int tie(int one, int two, boolean tied) {
        get(one);
        get(two);
        if (one == two) {
            throw new IllegalArgumentException();
        }
        if (bound(one, two) == tied) {
            throw new IllegalStateException();
        }
        record();
        setBound(one, two, tied);
        return get(one).bound.size();
    }

    private void setBound(int one, int two, boolean tied) {
        if (tied) {
            get(one).bound.add(get(two).id);
            get(two).bound.add(get(one).id);
        } else {
            get(one).bound.remove(get(two).id);
            get(two).bound.remove(get(one).id);
        }
    }

    private boolean switchProp(int plant) {
        get(plant);
        record();
        get(plant).propped = !get(plant).propped;
        return get(plant).propped;
    }

    private int change() {
        if (!LIST.matcher(text).matches()) {
            throw new IllegalArgumentException();
        }
        record();
        int made = 0;
        for (String change : text.split(",")) {
            if (makeChange(change)) {
                made++;
            }
        }
        return made;
    }

    private boolean makeChange(String change) {
        if (change.equals("+")) {
            if (plants.size() < 16) {
                plants.add(new Plant(nextId++));
                return true;
            }
            return false;
        }
        int last = change.charAt(change.length() - 1) - 'a';
        if (last >= plants.size()) {
            return false;
        }
        if (change.startsWith("!")) {
            get(last).propped ^= true;
            return true;
        }
        int first = change.charAt(0) - 'a';
        boolean tied = change.charAt(1) == '-';
        if (first >= plants.size() || bound(first, last) == tied) {
            return false;
        }
        setBound(first, last, tied);
        return true;
    }

    private int append(char character) {
        if (text.length() == 60) {
            throw new IllegalStateException();
        }
        text += character;
        return text.length();
    }

    private int clearText() {
        int had = text.length();
        text = "";
        return had;
    }

    private int firstError() {
        if (LIST.matcher(text).matches()) {
            throw new IllegalStateException();
        }
        for (int end = 1; end <= text.length(); end++) {
            if (!beginsList(text.substring(0, end))) {
                return end - 1;
            }
        }
        return text.length();
    }

    /** Whether one of the shortest ends makes it a list. */
    private static boolean beginsList(String beginning) {
        for (String end : new String[] {"", "+", "a", "b", "-a", "-b"}) {
            if (LIST.matcher(beginning + end).matches()) {
                return true;
            }
        }
        return false;
    }

    private int undo() {
        if (history.isEmpty()) {
            throw new IllegalStateException();
        }
        plants = history.removeLast();
        return history.size();
    }

    private int restoreSnapshot() {
        if (snapshot == null) {
            throw new IllegalStateException();
        }
        record();
        plants = copy(snapshot);
        return plants.size();
    }

    // ---- questions

    private int neighbors(int plant) {
        get(plant);
        Set<Integer> found = new TreeSet<>();
        for (int other = 0; other < plants.size(); other++) {
            if (bound(plant, other)) {
                found.add(other);
            }
        }
        return mask(found);
    }

    private static int mask(Set<Integer> set) {
        int mask = 0;
        for (int each : set) {
            mask += 1 << each;
        }
        return mask;
    }

    private Set<Integer> all() {
        Set<Integer> all = new TreeSet<>();
        for (int plant = 0; plant < plants.size(); plant++) {
            all.add(plant);
        }
        return all;
    }

    private int boundWithin(int plant, Set<Integer> set) {
        int found = 0;
        for (int other : set) {
            if (bound(plant, other)) {
                found++;
            }
        }
        return found;
    }

    private Set<Integer> core(int k) {
        checkK(k);
        return core(k, all(), plant -> get(plant).propped);
    }

    /** For few plants from all sets of which every plant holds enough; for more by taking one away at a time. */
    private Set<Integer> core(int k, Set<Integer> from, IntPredicate propped) {
        if (from.size() <= 7) {
            return coreOfAllSets(k, new ArrayList<>(from), propped);
        }
        Set<Integer> left = new TreeSet<>(from);
        boolean again = true;
        while (again) {
            again = false;
            for (int plant : new ArrayList<>(left)) {
                if (!propped.test(plant) && boundWithin(plant, left) < k) {
                    left.remove(plant);
                    again = true;
                    break;
                }
            }
        }
        return left;
    }

    private Set<Integer> coreOfAllSets(int k, List<Integer> from, IntPredicate propped) {
        Set<Integer> union = new TreeSet<>();
        for (int chosen = 0; chosen < 1 << from.size(); chosen++) {
            Set<Integer> set = new TreeSet<>();
            for (int place = 0; place < from.size(); place++) {
                if ((chosen >> place) % 2 == 1) {
                    set.add(from.get(place));
                }
            }
            boolean holds = true;
            for (int plant : set) {
                holds &= propped.test(plant) || boundWithin(plant, set) >= k;
            }
            if (holds) {
                union.addAll(set);
            }
        }
        return union;
    }

    private int coreNumber(int plant) {
        get(plant);
        int number = 0;
        for (int k = 1; k <= 15; k++) {
            if (core(k).contains(plant)) {
                number = k;
            }
        }
        return number;
    }

    private int greatestCore() {
        int greatest = 0;
        for (int plant : all()) {
            if (!get(plant).propped) {
                greatest = Math.max(greatest, coreNumber(plant));
            }
        }
        return greatest;
    }

    private List<Integer> order() {
        List<Integer> order = new ArrayList<>();
        Set<Integer> left = all();
        while (true) {
            int next = -1;
            for (int plant : left) {
                if (!get(plant).propped && (next < 0 || boundWithin(plant, left) < boundWithin(next, left))) {
                    next = plant;
                }
            }
            if (next < 0) {
                order.addAll(left);
                return order;
            }
            left.remove(next);
            order.add(next);
        }
    }

    private TreeMap<Integer, Integer> colorMap() {
        TreeMap<Integer, Integer> colors = new TreeMap<>();
        List<Integer> order = order();
        for (int place = order.size() - 1; place >= 0; place--) {
            int plant = order.get(place);
            Set<Integer> taken = new TreeSet<>();
            for (int other : colors.keySet()) {
                if (bound(plant, other)) {
                    taken.add(colors.get(other));
                }
            }
            int color = 0;
            while (taken.contains(color)) {
                color++;
            }
            colors.put(plant, color);
        }
        return colors;
    }

    /** Each plant begins as a piece of its own; a thorn makes two pieces one. */
    private int pieces(Set<Integer> core) {
        TreeMap<Integer, Integer> piece = new TreeMap<>();
        for (int plant : core) {
            piece.put(plant, plant);
        }
        for (int one : core) {
            for (int two : core) {
                if (bound(one, two)) {
                    int kept = piece.get(one);
                    int joined = piece.get(two);
                    piece.replaceAll((plant, old) -> old == joined ? kept : old);
                }
            }
        }
        return new TreeSet<>(piece.values()).size();
    }

    private int wouldFall(int plant, int k) {
        get(plant);
        checkK(k);
        Set<Integer> without = all();
        without.remove(plant);
        Set<Integer> fallen = core(k);
        fallen.removeAll(core(k, without, each -> get(each).propped));
        return fallen.size();
    }

    private int bestProp(int k) {
        checkK(k);
        int best = -1;
        int most = -1;
        for (int plant : all()) {
            if (!get(plant).propped) {
                int size = core(k, all(), each -> each == plant || get(each).propped).size();
                if (size > most) {
                    most = size;
                    best = plant;
                }
            }
        }
        if (best < 0) {
            throw new java.util.NoSuchElementException();
        }
        return best;
    }

    /** A thorn as the set of its two plants. */
    private Set<Set<Integer>> thorns() {
        Set<Set<Integer>> thorns = new java.util.HashSet<>();
        for (int one : all()) {
            for (int two : all()) {
                if (bound(one, two)) {
                    thorns.add(Set.of(one, two));
                }
            }
        }
        return thorns;
    }

    private int triangles() {
        Set<Set<Integer>> found = new java.util.HashSet<>();
        for (int one : all()) {
            for (int two : all()) {
                for (int three : all()) {
                    if (bound(one, two) && bound(two, three) && bound(three, one)) {
                        found.add(Set.of(one, two, three));
                    }
                }
            }
        }
        return found.size();
    }

    private void checkThorn(int one, int two) {
        get(one);
        get(two);
        if (!bound(one, two)) {
            throw new java.util.NoSuchElementException();
        }
    }

    private int support(int one, int two, Set<Set<Integer>> within) {
        int support = 0;
        for (int third : all()) {
            if (third != one && third != two
                    && within.contains(Set.of(one, third)) && within.contains(Set.of(two, third))) {
                support++;
            }
        }
        return support;
    }

    private Set<Set<Integer>> truss(int k) {
        Set<Set<Integer>> left = thorns();
        boolean again = true;
        while (again) {
            again = false;
            for (Set<Integer> thorn : new ArrayList<>(left)) {
                List<Integer> ends = new ArrayList<>(thorn);
                if (support(ends.get(0), ends.get(1), left) < k) {
                    left.remove(thorn);
                    again = true;
                }
            }
        }
        return left;
    }

    private int trussNumber(int one, int two) {
        checkThorn(one, two);
        int k = 0;
        while (truss(k + 1).contains(Set.of(one, two))) {
            k++;
        }
        return k;
    }
}
