import java.util.NoSuchElementException;

/** A thicket whose cores are peeled by thorns. ../shared/DOC.md says what each call promises. */
public final class ThornCores {
    private static final int MAX_PLANTS = 16;
    private static final int MAX_K = 15;
    private static final int MAX_TEXT = 60;
    private static final int MAX_HISTORY = 6;

    private final Thicket thicket = new Thicket();
    private final Text text = new Text();
    private final History history = new History();
    private final Row snapshot = new Row(Thicket.CELLS);
    private boolean hasSnapshot = false;
    private final Cores cores = new Cores(thicket);
    private final Trusses trusses = new Trusses(thicket);
    private final Falling falling = new Falling(thicket);

    public ThornCores() {
    }

    // ---- modifications

    public int plant() throws IllegalStateException {
        if (thicket.isFull()) {
            throw new IllegalStateException("there are 16 plants");
        }
        history.remember(thicket);
        thicket.grow();
        return thicket.count - 1;
    }

    public int uproot(int plant) throws IndexOutOfBoundsException {
        demandPlant(plant);
        history.remember(thicket);
        int gone = thicket.held(plant);
        thicket.pullOut(plant);
        return gone;
    }

    public int bind(int plant, int other)
            throws IndexOutOfBoundsException, IllegalArgumentException, IllegalStateException {
        demandTwoPlants(plant, other);
        if (thicket.isBound(plant, other)) {
            throw new IllegalStateException("they are bound");
        }
        history.remember(thicket);
        thicket.tie(plant, other);
        return thicket.held(plant);
    }

    public int cut(int plant, int other)
            throws IndexOutOfBoundsException, IllegalArgumentException, IllegalStateException {
        demandTwoPlants(plant, other);
        if (!thicket.isBound(plant, other)) {
            throw new IllegalStateException("they are not bound");
        }
        history.remember(thicket);
        thicket.untie(plant, other);
        return thicket.held(plant);
    }

    public boolean switchProp(int plant) throws IndexOutOfBoundsException {
        demandPlant(plant);
        history.remember(thicket);
        thicket.turnProp(plant);
        return thicket.hasProp(plant);
    }

    public int change() throws IllegalArgumentException {
        if (!text.isList()) {
            throw new IllegalArgumentException("the buffer is not a list of changes");
        }
        history.remember(thicket);
        return text.makeChanges(thicket);
    }

    // ---- text

    public int append(char character) throws IllegalStateException {
        if (text.isFull()) {
            throw new IllegalStateException("the buffer has 60 characters");
        }
        text.add(character);
        return text.length;
    }

    public int clearText() {
        int had = text.length;
        text.empty();
        return had;
    }

    public boolean isValid() {
        return text.isList();
    }

    public int firstError() throws IllegalStateException {
        if (text.isList()) {
            throw new IllegalStateException("the buffer is a list of changes");
        }
        return text.errorPlace();
    }

    // ---- history

    public int undo() throws IllegalStateException {
        if (history.size == 0) {
            throw new IllegalStateException("the history is empty");
        }
        history.takeBack(thicket);
        return history.size;
    }

    public int takeSnapshot() {
        thicket.writeTo(snapshot, 0);
        hasSnapshot = true;
        return thicket.count;
    }

    public int restoreSnapshot() throws IllegalStateException {
        if (!hasSnapshot) {
            throw new IllegalStateException("there is no snapshot");
        }
        history.remember(thicket);
        thicket.readFrom(snapshot, 0);
        return thicket.count;
    }

    // ---- plants and thorns

    public int plantCount() {
        return thicket.count;
    }

    public int thornCount() {
        return thicket.allThorns();
    }

    public int neighbors(int plant) throws IndexOutOfBoundsException {
        demandPlant(plant);
        return thicket.around(plant);
    }

    public boolean isPropped(int plant) throws IndexOutOfBoundsException {
        demandPlant(plant);
        return thicket.hasProp(plant);
    }

    public int triangles() {
        int found = 0;
        for (int first = 0; first < thicket.count; first++) {
            for (int second = first + 1; second < thicket.count; second++) {
                for (int third = second + 1; third < thicket.count; third++) {
                    if (thicket.isTriangle(first, second, third)) {
                        found++;
                    }
                }
            }
        }
        return found;
    }

    public int trianglesBySupport() {
        int supports = 0;
        for (int first = 0; first < thicket.count; first++) {
            for (int second = first + 1; second < thicket.count; second++) {
                if (thicket.isBound(first, second)) {
                    supports += bits(thicket.aroundBoth(first, second));
                }
            }
        }
        // Each triangle supports its three thorns.
        return supports / 3;
    }

    // ---- cores

    public int core(int k) throws IllegalArgumentException {
        demandK(k);
        return cores.left(thicket.plants(), thicket.props, k);
    }

    public int coreOf(int plant) throws IndexOutOfBoundsException {
        demandPlant(plant);
        return cores.numberByPeeling(plant);
    }

    public int coreByRounds(int plant) throws IndexOutOfBoundsException {
        demandPlant(plant);
        return cores.numberByRounds(plant);
    }

    public int placeOf(int plant) throws IndexOutOfBoundsException {
        demandPlant(plant);
        return falling.place(plant);
    }

    public int corePieces(int k) throws IllegalArgumentException {
        demandK(k);
        return cores.pieces(cores.left(thicket.plants(), thicket.props, k));
    }

    public int wouldFall(int plant, int k) throws IndexOutOfBoundsException, IllegalArgumentException {
        demandPlant(plant);
        demandK(k);
        int before = cores.left(thicket.plants(), thicket.props, k);
        int after = cores.left(thicket.plants() & ~bit(plant), thicket.props, k);
        return bits(before & ~after);
    }

    public int bestProp(int k) throws IllegalArgumentException, NoSuchElementException {
        demandK(k);
        if (thicket.props == thicket.plants()) {
            throw new NoSuchElementException("there is no plant to be propped up");
        }
        return cores.bestToProp(k);
    }

    // ---- trusses

    public int support(int plant, int other) throws IndexOutOfBoundsException, NoSuchElementException {
        demandThorn(plant, other);
        return bits(thicket.aroundBoth(plant, other));
    }

    public int trussOf(int plant, int other) throws IndexOutOfBoundsException, NoSuchElementException {
        demandThorn(plant, other);
        return trusses.numberByPeeling(plant, other);
    }

    public int trussByRounds(int plant, int other) throws IndexOutOfBoundsException, NoSuchElementException {
        demandThorn(plant, other);
        return trusses.numberByRounds(plant, other);
    }

    public int trussSize(int k) throws IllegalArgumentException {
        demandK(k);
        return trusses.size(k);
    }

    // ---- colors and totals

    public int colorOf(int plant) throws IndexOutOfBoundsException {
        demandPlant(plant);
        return falling.color(plant);
    }

    public int colors() {
        return falling.colorCount();
    }

    public int greatestCore() {
        return cores.greatestUnpropped();
    }

    public float averageNeighbors() {
        if (thicket.count == 0) {
            return 0.0f;
        }
        return (float) (2 * thicket.allThorns()) / (float) thicket.count;
    }

    public int historySize() {
        return history.size;
    }

    // ---- what the calls demand

    private void demandPlant(int plant) {
        if (!thicket.has(plant)) {
            throw new IndexOutOfBoundsException("there is no such plant");
        }
    }

    private void demandTwoPlants(int plant, int other) {
        demandPlant(plant);
        demandPlant(other);
        if (plant == other) {
            throw new IllegalArgumentException("both plants are the same");
        }
    }

    private void demandThorn(int plant, int other) {
        demandPlant(plant);
        demandPlant(other);
        if (!thicket.isBound(plant, other)) {
            throw new NoSuchElementException("they are not bound");
        }
    }

    private void demandK(int k) {
        if (k < 0 || k > MAX_K) {
            throw new IllegalArgumentException("k is out of range");
        }
    }

    // ---- sets of plants, bit p for the plant p

    private static int bit(int plant) {
        return 1 << plant;
    }

    private static boolean in(int set, int plant) {
        return (set >>> plant & 1) != 0;
    }

    private static int bits(int set) {
        return Integer.bitCount(set);
    }

    /** A row of numbers, and the one place where an array's index is used, so that it is tested once for all. */
    private static final class Row {
        private final int[] cells;

        Row(int length) {
            cells = new int[Math.max(0, length)];
        }

        int at(int place) {
            return place >= 0 && place < cells.length ? cells[place] : 0;
        }

        void put(int place, int number) {
            if (place >= 0 && place < cells.length) {
                cells[place] = number;
            }
        }
    }

    /** The state: the plants, their thorns and their props. Rows behind the last plant hold 0. */
    private static final class Thicket {
        static final int CELLS = MAX_PLANTS + 2;

        private int count = 0;
        private int props = 0;
        private final Row thorns = new Row(MAX_PLANTS);

        boolean has(int plant) {
            return plant >= 0 && plant < count;
        }

        boolean isFull() {
            return count >= MAX_PLANTS;
        }

        int plants() {
            return bit(count) - 1;
        }

        int around(int plant) {
            return thorns.at(plant);
        }

        int aroundBoth(int plant, int other) {
            return thorns.at(plant) & thorns.at(other);
        }

        int held(int plant) {
            return bits(thorns.at(plant));
        }

        boolean hasProp(int plant) {
            return has(plant) && in(props, plant);
        }

        boolean isBound(int plant, int other) {
            return has(plant) && has(other) && in(thorns.at(plant), other);
        }

        boolean isTriangle(int first, int second, int third) {
            return isBound(first, second) && isBound(first, third) && isBound(second, third);
        }

        int allThorns() {
            int ends = 0;
            for (int plant = 0; plant < count; plant++) {
                ends += held(plant);
            }
            return ends / 2;
        }

        // The changes below answer whether they were possible, as a list of changes leaves out those that are not.

        boolean grow() {
            if (isFull()) {
                return false;
            }
            count++;
            return true;
        }

        boolean tie(int plant, int other) {
            if (!has(plant) || !has(other) || plant == other || isBound(plant, other)) {
                return false;
            }
            thorns.put(plant, thorns.at(plant) | bit(other));
            thorns.put(other, thorns.at(other) | bit(plant));
            return true;
        }

        boolean untie(int plant, int other) {
            if (!isBound(plant, other)) {
                return false;
            }
            thorns.put(plant, thorns.at(plant) & ~bit(other));
            thorns.put(other, thorns.at(other) & ~bit(plant));
            return true;
        }

        boolean turnProp(int plant) {
            if (!has(plant)) {
                return false;
            }
            props ^= bit(plant);
            return true;
        }

        void pullOut(int plant) {
            if (!has(plant)) {
                return;
            }
            for (int place = plant; place < MAX_PLANTS; place++) {
                thorns.put(place, place + 1 < MAX_PLANTS ? thorns.at(place + 1) : 0);
            }
            for (int place = 0; place < MAX_PLANTS; place++) {
                thorns.put(place, closeGap(thorns.at(place), plant));
            }
            props = closeGap(props, plant);
            count--;
        }

        private static int closeGap(int set, int plant) {
            int below = bit(plant) - 1;
            return (set & below) | ((set >>> 1) & ~below);
        }

        void writeTo(Row row, int start) {
            row.put(start, count);
            row.put(start + 1, props);
            for (int plant = 0; plant < MAX_PLANTS; plant++) {
                row.put(start + 2 + plant, thorns.at(plant));
            }
        }

        void readFrom(Row row, int start) {
            count = row.at(start);
            props = row.at(start + 1);
            for (int plant = 0; plant < MAX_PLANTS; plant++) {
                thorns.put(plant, row.at(start + 2 + plant));
            }
        }
    }

    /** The latest states, written round and round into one row that is made once. */
    private static final class History {
        private final Row kept = new Row(MAX_HISTORY * Thicket.CELLS);
        private int oldest = 0;
        private int size = 0;

        void remember(Thicket thicket) {
            if (size == MAX_HISTORY) {
                oldest = (oldest + 1) % MAX_HISTORY;
                size--;
            }
            thicket.writeTo(kept, start(size));
            size++;
        }

        void takeBack(Thicket thicket) {
            if (size == 0) {
                return;
            }
            size--;
            thicket.readFrom(kept, start(size));
        }

        private int start(int age) {
            return (oldest + age) % MAX_HISTORY * Thicket.CELLS;
        }
    }

    /** The text buffer, read as a list of changes. */
    private static final class Text {
        private static final int CHANGE = 0;
        private static final int SIGN = 1;
        private static final int OTHER_NAME = 2;
        private static final int PROP_NAME = 3;
        private static final int COMMA = 4;
        private static final int ERROR = 5;

        private final Row characters = new Row(MAX_TEXT);
        private int length = 0;

        boolean isFull() {
            return length >= MAX_TEXT;
        }

        void add(char character) {
            if (!isFull()) {
                characters.put(length, character);
                length++;
            }
        }

        void empty() {
            length = 0;
        }

        boolean isList() {
            int awaited = CHANGE;
            for (int place = 0; place < length; place++) {
                awaited = awaitedAfter(awaited, place);
            }
            return awaited == COMMA;
        }

        int errorPlace() {
            int awaited = CHANGE;
            for (int place = 0; place < length; place++) {
                awaited = awaitedAfter(awaited, place);
                if (awaited == ERROR) {
                    return place;
                }
            }
            return length;
        }

        /** What is awaited behind the character at a place at which something was awaited. */
        private int awaitedAfter(int awaited, int place) {
            int character = characters.at(place);
            switch (awaited) {
                case CHANGE:
                    return awaitedAfterFirst(character);
                case SIGN:
                    return character == '-' || character == '/' ? OTHER_NAME : ERROR;
                case OTHER_NAME:
                    return isName(character) && character != characters.at(place - 2) ? COMMA : ERROR;
                case PROP_NAME:
                    return isName(character) ? COMMA : ERROR;
                case COMMA:
                    return character == ',' ? CHANGE : ERROR;
                default:
                    return ERROR;
            }
        }

        private static int awaitedAfterFirst(int character) {
            if (character == '+') {
                return COMMA;
            }
            if (character == '!') {
                return PROP_NAME;
            }
            return isName(character) ? SIGN : ERROR;
        }

        private static boolean isName(int character) {
            return character >= 'a' && character <= 'p';
        }

        int makeChanges(Thicket thicket) {
            int made = 0;
            for (int place = 0; place < length; place++) {
                if (beginsChange(place) && makeChange(thicket, place)) {
                    made++;
                }
            }
            return made;
        }

        private boolean beginsChange(int place) {
            return place == 0 || characters.at(place - 1) == ',';
        }

        private boolean makeChange(Thicket thicket, int start) {
            int first = characters.at(start);
            if (first == '+') {
                return thicket.grow();
            }
            if (first == '!') {
                return thicket.turnProp(named(start + 1));
            }
            if (characters.at(start + 1) == '-') {
                return thicket.tie(named(start), named(start + 2));
            }
            return thicket.untie(named(start), named(start + 2));
        }

        private int named(int place) {
            return characters.at(place) - 'a';
        }
    }

    /** What is left of the plants when those with too few neighbors fall away. */
    private static final class Cores {
        private final Thicket thicket;
        private final Row numbers = new Row(MAX_PLANTS);

        Cores(Thicket thicket) {
            this.thicket = thicket;
        }

        int left(int plants, int props, int k) {
            int left = plants;
            // Each round but the last takes at least one plant away.
            for (int round = 0; round <= MAX_PLANTS; round++) {
                int next = holding(left, props, k);
                if (next == left) {
                    return left;
                }
                left = next;
            }
            return left;
        }

        private int holding(int left, int props, int k) {
            int holding = left & props;
            for (int plant = 0; plant < MAX_PLANTS; plant++) {
                if (in(left, plant) && bits(thicket.around(plant) & left) >= k) {
                    holding |= bit(plant);
                }
            }
            return holding;
        }

        int numberByPeeling(int plant) {
            for (int k = MAX_K; k > 0; k--) {
                if (in(left(thicket.plants(), thicket.props, k), plant)) {
                    return k;
                }
            }
            return 0;
        }

        int greatestUnpropped() {
            for (int k = MAX_K; k > 0; k--) {
                if ((left(thicket.plants(), thicket.props, k) & ~thicket.props) != 0) {
                    return k;
                }
            }
            return 0;
        }

        int numberByRounds(int plant) {
            for (int each = 0; each < thicket.count; each++) {
                numbers.put(each, thicket.hasProp(each) ? MAX_K : thicket.held(each));
            }
            // Numbers only sink, and each round but the last lowers one: 16 times 15 rounds and one are enough.
            for (int round = 0; round <= MAX_PLANTS * MAX_K; round++) {
                if (!lowerNumbers()) {
                    break;
                }
            }
            return numbers.at(plant);
        }

        private boolean lowerNumbers() {
            boolean changed = false;
            for (int plant = 0; plant < thicket.count; plant++) {
                if (!thicket.hasProp(plant)) {
                    int lowered = greatestHeld(plant);
                    changed = changed || lowered != numbers.at(plant);
                    numbers.put(plant, lowered);
                }
            }
            return changed;
        }

        private int greatestHeld(int plant) {
            // A number never rises, so that the search begins at the present one.
            for (int h = numbers.at(plant); h > 0; h--) {
                if (neighborsFrom(plant, h) >= h) {
                    return h;
                }
            }
            return 0;
        }

        private int neighborsFrom(int plant, int h) {
            int found = 0;
            for (int other = 0; other < thicket.count; other++) {
                if (thicket.isBound(plant, other) && numbers.at(other) >= h) {
                    found++;
                }
            }
            return found;
        }

        int pieces(int core) {
            int found = 0;
            int rest = core;
            for (int plant = 0; plant < MAX_PLANTS; plant++) {
                if (in(rest, plant)) {
                    found++;
                    rest &= ~pieceOf(plant, core);
                }
            }
            return found;
        }

        private int pieceOf(int plant, int core) {
            int piece = bit(plant);
            // A piece has at most 16 plants, and each round but the last adds one of them.
            for (int round = 0; round < MAX_PLANTS; round++) {
                int grown = piece;
                for (int member = 0; member < MAX_PLANTS; member++) {
                    if (in(piece, member)) {
                        grown |= thicket.around(member) & core;
                    }
                }
                if (grown == piece) {
                    break;
                }
                piece = grown;
            }
            return piece;
        }

        int bestToProp(int k) {
            int best = 0;
            int most = -1;
            for (int plant = 0; plant < thicket.count; plant++) {
                if (!thicket.hasProp(plant)) {
                    int size = bits(left(thicket.plants(), thicket.props | bit(plant), k));
                    if (size > most) {
                        best = plant;
                        most = size;
                    }
                }
            }
            return best;
        }
    }

    /** What is left of the thorns when those with too little support go. */
    private static final class Trusses {
        private static final int MAX_THORNS = MAX_PLANTS * (MAX_PLANTS - 1) / 2;

        private final Thicket thicket;
        private final Row left = new Row(MAX_PLANTS);
        private final Row numbers = new Row(MAX_PLANTS * MAX_PLANTS);

        Trusses(Thicket thicket) {
            this.thicket = thicket;
        }

        int size(int k) {
            takeAllThorns();
            peel(k);
            int ends = 0;
            for (int plant = 0; plant < MAX_PLANTS; plant++) {
                ends += bits(left.at(plant));
            }
            return ends / 2;
        }

        int numberByPeeling(int plant, int other) {
            takeAllThorns();
            // The (k+1)-truss lies within the k-truss, so that the peeling goes on where it stands.
            for (int k = 0; k < MAX_K; k++) {
                peel(k + 1);
                if (!in(left.at(plant), other)) {
                    return k;
                }
            }
            return MAX_K;
        }

        private void takeAllThorns() {
            for (int plant = 0; plant < MAX_PLANTS; plant++) {
                left.put(plant, thicket.around(plant));
            }
        }

        private void peel(int k) {
            // Each round but the last takes at least one thorn away.
            for (int round = 0; round <= MAX_THORNS; round++) {
                if (!dropWeak(k)) {
                    break;
                }
            }
        }

        private boolean dropWeak(int k) {
            boolean dropped = false;
            for (int plant = 0; plant < thicket.count; plant++) {
                for (int other = plant + 1; other < thicket.count; other++) {
                    if (in(left.at(plant), other) && bits(left.at(plant) & left.at(other)) < k) {
                        left.put(plant, left.at(plant) & ~bit(other));
                        left.put(other, left.at(other) & ~bit(plant));
                        dropped = true;
                    }
                }
            }
            return dropped;
        }

        int numberByRounds(int plant, int other) {
            for (int one = 0; one < thicket.count; one++) {
                for (int two = one + 1; two < thicket.count; two++) {
                    if (thicket.isBound(one, two)) {
                        putNumber(one, two, bits(thicket.aroundBoth(one, two)));
                    }
                }
            }
            // Numbers only sink, and each round but the last lowers one: 120 times 15 rounds and one are enough.
            for (int round = 0; round <= MAX_THORNS * MAX_K; round++) {
                if (!lowerNumbers()) {
                    break;
                }
            }
            return number(plant, other);
        }

        private boolean lowerNumbers() {
            boolean changed = false;
            for (int one = 0; one < thicket.count; one++) {
                for (int two = one + 1; two < thicket.count; two++) {
                    if (thicket.isBound(one, two)) {
                        int lowered = greatestHeld(one, two);
                        changed = changed || lowered != number(one, two);
                        putNumber(one, two, lowered);
                    }
                }
            }
            return changed;
        }

        private int greatestHeld(int one, int two) {
            // A number never rises, so that the search begins at the present one.
            for (int h = number(one, two); h > 0; h--) {
                if (trianglesFrom(one, two, h) >= h) {
                    return h;
                }
            }
            return 0;
        }

        private int trianglesFrom(int one, int two, int h) {
            int found = 0;
            int thirds = thicket.aroundBoth(one, two);
            for (int third = 0; third < thicket.count; third++) {
                if (in(thirds, third) && Math.min(number(one, third), number(two, third)) >= h) {
                    found++;
                }
            }
            return found;
        }

        private int number(int one, int two) {
            return numbers.at(one * MAX_PLANTS + two);
        }

        private void putNumber(int one, int two, int number) {
            numbers.put(one * MAX_PLANTS + two, number);
            numbers.put(two * MAX_PLANTS + one, number);
        }
    }

    /** The order in which plants fall away, and the colors that they get in its reverse. */
    private static final class Falling {
        private final Thicket thicket;
        private final Row order = new Row(MAX_PLANTS);
        private final Row given = new Row(MAX_PLANTS);

        Falling(Thicket thicket) {
            this.thicket = thicket;
        }

        int place(int plant) {
            findOrder();
            for (int place = 0; place < thicket.count; place++) {
                if (order.at(place) == plant) {
                    return place;
                }
            }
            return 0;
        }

        int color(int plant) {
            giveColors();
            return given.at(plant);
        }

        int colorCount() {
            giveColors();
            int count = 0;
            for (int plant = 0; plant < thicket.count; plant++) {
                count = Math.max(count, given.at(plant) + 1);
            }
            return count;
        }

        private void findOrder() {
            int left = thicket.plants();
            for (int place = 0; place < thicket.count; place++) {
                int next = nextToFall(left);
                order.put(place, next);
                left &= ~bit(next);
            }
        }

        private int nextToFall(int left) {
            // The propped ones wait until no other is left.
            int free = left & ~thicket.props;
            int waiting = free != 0 ? free : left;
            int next = 0;
            int fewest = MAX_PLANTS;
            for (int plant = 0; plant < thicket.count; plant++) {
                int neighbors = free != 0 ? bits(thicket.around(plant) & left) : 0;
                if (in(waiting, plant) && neighbors < fewest) {
                    next = plant;
                    fewest = neighbors;
                }
            }
            return next;
        }

        private void giveColors() {
            findOrder();
            int colored = 0;
            for (int place = thicket.count - 1; place >= 0; place--) {
                int plant = order.at(place);
                given.put(plant, leastColor(thicket.around(plant) & colored));
                colored |= bit(plant);
            }
        }

        private int leastColor(int coloredNeighbors) {
            int taken = 0;
            for (int plant = 0; plant < thicket.count; plant++) {
                if (in(coloredNeighbors, plant)) {
                    taken |= bit(given.at(plant));
                }
            }
            for (int color = 0; color < MAX_PLANTS; color++) {
                if (!in(taken, color)) {
                    return color;
                }
            }
            return 0;
        }
    }
}
