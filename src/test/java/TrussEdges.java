/** The edges of promises 28 to 31, and of trusses. */
final class TrussEdges {
    private TrussEdges() {
    }

    static void test() {
        supports();
        fewerThanK();
        againAndAgain();
        greatestK();
        byRounds();
        manyRounds();
        afterOthers();
        sizes();
        propsDoNotMatter();
    }

    private static void supports() {
        Document.quote("TRUSSES", "the number of triangles that it forms with two other thorns of the set");
        Document.quote(28, "Returns the support of a thorn among all thorns.");
        Document.quote(28, "Returns the number of triangles.");
        ThornCores x = Thickets.of(16, "ap");
        for (int third = 1; third < 15; third++) {
            int between = third;
            Check.due("before " + third, between - 1, () -> x.support(0, 15));
            x.bind(0, third);
            Check.due("one thorn forms none", between - 1, () -> x.support(0, 15));
            Check.due("nor with this", 0, () -> x.support(between, 0));
            x.bind(third, 15);
            Check.due("two do", between, () -> x.support(15, 0));
            Check.due("with this", 1, () -> x.support(between, 0));
        }
        ThornCores full = Thickets.complete(16);
        Check.due("most", 14, () -> full.support(0, 15));
        Check.due("most, turned", 14, () -> full.support(15, 0));
        full.cut(3, 15);
        Check.due("one less", 13, () -> full.support(0, 15));
        Check.due("elsewhere as before", 14, () -> full.support(0, 1));
    }

    private static void fewerThanK() {
        Document.quote("TRUSSES", "if thorns with a support of fewer than k among those that are left are removed");
        Document.quote(31, "Returns the number of thorns of the k-truss.");
        for (int plants = 1; plants <= 16; plants++) {
            int thorns = plants * (plants - 1) / 2;
            int most = plants - 2;
            ThornCores x = Thickets.complete(plants);
            for (int k : Thickets.upTo(16)) {
                Check.due(plants + " all bound, k " + k, k <= most ? thorns : 0, () -> x.trussSize(k));
            }
        }
    }

    private static void againAndAgain() {
        Document.quote("TRUSSES", "The k-truss is what is left of all thorns");
        Document.quote("TRUSSES", "removed again and again");
        // A strip of triangles: each inner thorn lies in two, and they fall away from both ends.
        ThornCores strip = strip();
        Check.due("all in 1", 29, () -> strip.trussSize(1));
        Check.due("none in 2", 0, () -> strip.trussSize(2));
        number(strip, 7, 8, 1);
        number(strip, 0, 1, 1);
        number(strip, 14, 15, 1);
        // Closed to a ring, every thorn between next ones has two triangles, every other one only one.
        ThornCores ring = Thickets.ring(2);
        Check.due("ring in 1", 32, () -> ring.trussSize(1));
        Check.due("ring in 2", 0, () -> ring.trussSize(2));
        ThornCores wide = Thickets.ring(3);
        Check.due("wide ring in 2", 48, () -> wide.trussSize(2));
        Check.due("wide ring in 3", 0, () -> wide.trussSize(3));
        wide.cut(0, 3);
        Check.due("all but one thorn", 0, () -> wide.trussSize(3));
    }

    private static ThornCores strip() {
        ThornCores x = Thickets.of(16, "");
        for (int plant = 0; plant < 15; plant++) {
            x.bind(plant, plant + 1);
            if (plant < 14) {
                x.bind(plant + 2, plant);
            }
        }
        return x;
    }

    private static void number(ThornCores x, int one, int two, int due) {
        Document.quote(29, "Returns the truss number of a thorn, found by removing thorns again and again.");
        Check.due(one + " " + two, due, () -> x.trussOf(one, two));
        Check.due(two + " " + one, due, () -> x.trussOf(two, one));
        Document.quote(30, "the same number, found in rounds: each thorn has a number, at first its support");
        Check.due(one + " " + two, due, () -> x.trussByRounds(one, two));
        Check.due(two + " " + one, due, () -> x.trussByRounds(two, one));
    }

    private static void greatestK() {
        Document.quote("TRUSSES", "The truss number of a thorn is the greatest k for which it is in the k-truss.");
        for (int plants = 2; plants <= 16; plants++) {
            number(Thickets.complete(plants), 0, plants - 1, plants - 2);
        }
        ThornCores full = Thickets.complete(16);
        full.cut(0, 15);
        number(full, 0, 1, 13);
        number(full, 1, 2, 13);
        full.cut(0, 14);
        number(full, 0, 1, 12);
        number(full, 1, 2, 13);
        number(full, 14, 15, 13);
    }

    private static void byRounds() {
        Document.quote(30, "the lesser number of the two other thorns is at least h in at least h of its triangles");
        // The thorn ab has three triangles, but their other thorns have only that one.
        ThornCores fan = Thickets.of(5, "ab ac bc ad bd ae be");
        number(fan, 0, 1, 1);
        number(fan, 0, 2, 1);
        // Of its two triangles one has a strong and a weak thorn.
        ThornCores uneven = Thickets.of(6, "ab ac ad bc bd cd ae be af ef");
        number(uneven, 0, 1, 2);
        number(uneven, 0, 4, 1);
        number(uneven, 1, 4, 1);
        uneven.cut(1, 2);
        number(uneven, 0, 1, 1);
        number(uneven, 0, 5, 1);
        Document.quote(30, "until nothing changes");
        number(Thickets.of(6, "ab ac ae af bd be bf ce cf de df"), 0, 1, 1);
        number(strip(), 7, 8, 1);
    }

    /** Thickets that fall apart little by little: some thorns become weak only after ten rounds and more. */
    private static void manyRounds() {
        Document.quote("TRUSSES", "removed again and again");
        String loose = "ab ag ai aj bj ce cl cp di dj dm eg ej el fi fl fn fo hk hm hn io km kp ln mo";
        String held = "ae af am ap bd bg bh bl bo bp cg ck cn dg dh dl do dp ef em ep fm fp gk gn go hl hp ij ik in jk jn kn";
        ThornCores two = Thickets.of(16, loose + " " + held);
        Check.due("more in 2", 34, () -> two.trussSize(2));
        numbers(two, loose, 1);
        numbers(two, held, 2);
        String weak = "ac ah al bd be bf bg bk bl cd ce cf cg ch cl cm df dh dk el em fg fi fj fl fm gh gi gj gk gl hi hl hm "
                + "ik im jk jm kl km lm";
        String strong = "ad ae ai aj de di dj ei ej ij";
        ThornCores three = Thickets.of(13, weak + " " + strong);
        Check.due("all in 2", 51, () -> three.trussSize(2));
        Check.due("few in 3", 10, () -> three.trussSize(3));
        numbers(three, weak, 2);
        numbers(three, strong, 3);
    }

    private static void numbers(ThornCores x, String thorns, int due) {
        for (String thorn : thorns.split(" ")) {
            int one = thorn.charAt(0) - 'a';
            int two = thorn.charAt(1) - 'a';
            Document.quote(29, "found by removing thorns again and again");
            Check.due(thorn, due, () -> x.trussOf(one, two));
            Document.quote(30, "until nothing changes");
            Check.due(thorn, due, () -> x.trussByRounds(two, one));
        }
    }

    /** What an earlier question has found must not show in a later one. */
    private static void afterOthers() {
        Document.quote(30, "each thorn has a number, at first its support");
        ThornCores x = Thickets.complete(16);
        number(x, 14, 15, 14);
        Check.due("none", 0, () -> x.trussSize(15));
        number(x, 14, 15, 14);
        Check.due("all", 120, () -> x.trussSize(14));
        x.uproot(15);
        x.plant();
        x.bind(15, 14);
        number(x, 15, 14, 0);
        number(x, 14, 13, 13);
        x.bind(15, 0);
        number(x, 15, 14, 1);
        Check.due("thorns stay", 107, x::thornCount);
    }

    private static void sizes() {
        Document.quote(31, "`k`: 0 to 15");
        Check.due("no plants, 0", 0, () -> new ThornCores().trussSize(0));
        Check.due("no plants, 15", 0, () -> new ThornCores().trussSize(15));
        Check.due("no thorns", 0, () -> Thickets.of(16, "").trussSize(0));
        ThornCores x = Thickets.of(16, "ab bc ac cd no");
        Check.due("all in 0", 5, () -> x.trussSize(0));
        Check.due("the triangle in 1", 3, () -> x.trussSize(1));
        Check.due("none in 2", 0, () -> x.trussSize(2));
        Check.due("none in 15", 0, () -> x.trussSize(15));
        ThornCores full = Thickets.complete(16);
        Check.due("all in 14", 120, () -> full.trussSize(14));
        Check.due("none of all in 15", 0, () -> full.trussSize(15));
    }

    private static void propsDoNotMatter() {
        Document.quote("TRUSSES", "(Props do not matter here.)");
        ThornCores x = Thickets.prop(Thickets.of(16, "ab bc ac cd"), Thickets.upTo(16));
        number(x, 0, 1, 1);
        number(x, 2, 3, 0);
        Check.due("support", 1, () -> x.support(0, 1));
        Check.due("0", 4, () -> x.trussSize(0));
        Check.due("1", 3, () -> x.trussSize(1));
        Check.due("2", 0, () -> x.trussSize(2));
        Check.due("15", 0, () -> x.trussSize(15));
    }
}
