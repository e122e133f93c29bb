/** The edges of promises 8 to 11, and of the text buffer. */
final class TextEdges {
    private static final String NAMES = "abcdefghijklmnop";

    private TextEdges() {
    }

    static void test() {
        atMostSixty();
        clear();
        anyCharacter();
        numberOfChanges();
        namesFromAToP();
        otherThanTheFirst();
        everyCharacterBehindEveryBeginning();
        firstErrorStays();
        errorAtTheEnd();
        plantsDoNotMatter();
    }

    private static void atMostSixty() {
        Document.quote("TEXT", "There is a text buffer of at most 60 characters, initially empty.");
        ThornCores x = new ThornCores();
        Check.due("initially empty", 0, x::clearText);
        Document.quote(8, "Appends a character to the text buffer.");
        Document.quote(8, "Returns the length of the buffer afterwards.");
        String list = "+,".repeat(25) + "!a,a-b,o-p";
        for (int length = 1; length <= 60; length++) {
            char next = list.charAt(length - 1);
            Check.due("length", length, () -> x.append(next));
        }
        Document.quote(8, "if the buffer has 60 characters");
        Check.due("sixty-first", Thickets.BAD_STATE, () -> x.append('+'));
        Check.due("sixty-first, any", Thickets.BAD_STATE, () -> x.append((char) 0));
        Check.due("still a list", true, x::isValid);
        Check.due("with all its changes", 19, x::change);
        Check.due("no longer", 60, x::clearText);
    }

    private static void clear() {
        Document.quote(9, "Clears the text buffer.");
        Document.quote(9, "Returns the length that it had.");
        for (int length : new int[] {0, 1, 59, 60}) {
            ThornCores x = Thickets.written("?".repeat(length));
            Check.due("had", length, x::clearText);
            Check.due("empty", 0, x::clearText);
            Check.due("no list", false, x::isValid);
            Check.due("error", 0, x::firstError);
            Check.due("from the beginning", 1, () -> x.append('+'));
            Check.due("list", true, x::isValid);
            Check.due("nothing of before", Thickets.BAD_STATE, x::firstError);
            Check.due("one change", 1, x::change);
        }
        ThornCores shorter = Thickets.written("+,+,+");
        Thickets.write(shorter, "+");
        Check.due("nothing behind the end", 1, shorter::change);
        ThornCores cleared = Thickets.write(Thickets.of(2, ""), "?a-b");
        Thickets.write(cleared, "!a");
        Check.due("one change, whatever stood behind it", 1, cleared::change);
        Check.due("and no thorn of the text before", 0, cleared::thornCount);
    }

    private static void anyCharacter() {
        Document.quote(8, "`character`: any character");
        int[] characters = {0, 1, 9, 10, 32, 127, 128, 255, 256, 0x7fff, 0x8000, 0xd800, 0xdc00, 0xffff,
            '+' + 256, 'a' + 256, ',' + 0x8000, '!' + 0xff00};
        for (int each : characters) {
            ThornCores x = Thickets.written("+,");
            Check.due("character " + each, 3, () -> x.append((char) each));
            Check.due("no list with " + each, false, x::isValid);
            Check.due("error at " + each, 2, x::firstError);
            Check.due("one more than it", 4, () -> x.append('+'));
            Check.due("length with " + each, 4, x::clearText);
        }
    }

    private static void numberOfChanges() {
        Document.quote("TEXT", "A list of changes consists of one or more changes separated by \",\".");
        Document.quote(10, "Tells whether the text buffer is a list of changes.");
        list("");
        list("+", "+");
        list("+,+", "+", "+");
        String[] pluses = new String[30];
        java.util.Arrays.fill(pluses, "+");
        list("+,".repeat(29) + "+", pluses);
        list("a-b,a/b,!a,+,p/o", "a-b", "a/b", "!a", "+", "p/o");
        String[] none = {",", ",+", "+,", "+,,+", "+;+", "++", "+ ,+", " +", "+ ", "a-b!a", "!a+", "a-ba/b"};
        for (String text : none) {
            ThornCores x = Thickets.written(text);
            Check.due(text, false, x::isValid);
            Check.due(text, Thickets.BAD_ARGUMENT, x::change);
        }
    }

    private static void list(String text, String... changes) {
        ThornCores x = Thickets.written(text);
        Check.due(text, changes.length > 0, x::isValid);
        Check.same(text, String.join(",", changes), text);
        Check.due(text, changes.length > 0 ? Thickets.BAD_STATE : "0", x::firstError);
    }

    private static void namesFromAToP() {
        Document.quote("TEXT", "Names are letters from \"a\" to \"p\".");
        for (char name : NAMES.toCharArray()) {
            char other = name == 'h' ? 'i' : 'h';
            valid("!" + name, true);
            valid(name + "-" + other, true);
            valid(other + "-" + name, true);
            valid(name + "/" + other, true);
            valid(other + "/" + name, true);
        }
        for (char none : "`qz{@AHPQ0 ".toCharArray()) {
            valid("!" + none, false);
            valid(none + "-h", false);
            valid("h-" + none, false);
            valid(none + "/h", false);
            valid("h/" + none, false);
        }
    }

    private static void valid(String text, boolean due) {
        ThornCores x = Thickets.written(text);
        Check.due(text, due, x::isValid);
    }

    private static void otherThanTheFirst() {
        Document.quote("TEXT", "a name, \"-\" and a name other than the first one");
        for (char one : NAMES.toCharArray()) {
            for (char two : NAMES.toCharArray()) {
                valid(one + "-" + two, one != two);
                valid(one + "/" + two, one != two);
                valid("!" + one + "," + two + "-" + (two == 'a' ? 'b' : 'a'), true);
                valid(one + "-" + (one == 'a' ? 'b' : 'a') + "," + two + "/" + (two == 'p' ? 'o' : 'p'), true);
            }
        }
    }

    /** Each beginning of a list with all the characters that can follow it. */
    private static void everyCharacterBehindEveryBeginning() {
        Document.quote("TEXT", "the index of the first character that cannot follow the characters in front of it");
        Document.quote(11, "Returns the index of the first error of the text buffer.");
        String first = "+!" + NAMES;
        behind("", first, false);
        behind("+", ",", true);
        behind("+,", first, false);
        behind("!", NAMES, false);
        behind("!a", ",", true);
        behind("!p", ",", true);
        behind("!a,", first, false);
        behind("a", "-/", false);
        behind("p", "-/", false);
        behind("a-", "bcdefghijklmnop", false);
        behind("p-", "abcdefghijklmno", false);
        behind("h/", "abcdefgijklmnop", false);
        behind("a-p", ",", true);
        behind("p/a", ",", true);
        behind("h/i,", first, false);
        behind("h/i,i", "-/", false);
        behind("h/i,i-", "abcdefghjklmnop", false);
        behind("h-i,!", NAMES, false);
        String full = "+,".repeat(29);
        behind(full, first, false);
        behind(full + "+", ",", true);
        behind(full + "a", "-/", false);
        behind(full + "!", NAMES, false);
    }

    private static void behind(String beginning, String following, boolean list) {
        ThornCores whole = Thickets.written(beginning);
        Check.due(beginning, list, whole::isValid);
        Check.due(beginning + " ends", list ? Thickets.BAD_STATE : beginning.length(), whole::firstError);
        for (int each = 0; each < 400; each++) {
            char character = (char) each;
            ThornCores x = Thickets.written(beginning);
            x.append(character);
            // One that can follow makes a list, or its error is the end of the buffer, 1 further.
            boolean follows = following.indexOf(character) >= 0;
            String due = follows ? answerOfBeginning(beginning + character) : String.valueOf(beginning.length());
            Check.due(beginning + " and " + each, due, x::firstError);
            Check.due(beginning + " and " + each, due.equals(Thickets.BAD_STATE), x::isValid);
        }
    }

    private static String answerOfBeginning(String beginning) {
        String last = beginning.substring(beginning.lastIndexOf(',') + 1);
        boolean whole = last.equals("+") || last.length() == 3 || last.length() == 2 && last.charAt(0) == '!';
        return whole ? Thickets.BAD_STATE : String.valueOf(beginning.length());
    }

    private static void firstErrorStays() {
        Document.quote("TEXT", "the index of the first character that cannot follow");
        String[] behind = {"", "+", ",", ",+", "a-b", "!a,+", "?", "-b,+"};
        String[] wrong = {"?", "++", "+a", "a,", "a-a", "!q", "+,,", "a-b-", "+,a+", "!ab", "b/b", "a-b,c-c"};
        int[] place = {0, 1, 1, 1, 2, 1, 2, 3, 3, 2, 2, 6};
        for (int each : Thickets.upTo(wrong.length)) {
            for (String rest : behind) {
                ThornCores x = Thickets.written(wrong[each] + rest);
                Check.due(wrong[each] + rest, place[each], x::firstError);
                Check.due(wrong[each] + rest, false, x::isValid);
            }
        }
    }

    private static void errorAtTheEnd() {
        Document.quote("TEXT", "or the length of the buffer if there is no such character");
        String full = "+,".repeat(29) + "+";
        error("", 0);
        error(full + ",", 60);
        error(full + "+", 59);
        error(full, -1);
        error("+,".repeat(28) + "a-b", -1);
        error("+,".repeat(28) + "a-b,", 60);
        error("+,".repeat(28) + "a-bc", 59);
        error("+,".repeat(28) + "!a,b", 60);
        error("+,".repeat(28) + "!a,!", 60);
        error("+,".repeat(28) + "!a,+", -1);
        error("+,".repeat(28) + "+,a-", 60);
        error("+,".repeat(28) + "+,!b", -1);
        error("+,".repeat(28) + "+,!q", 59);
        error("?" + full, 0);
        error("+,".repeat(30), 60);
    }

    private static void error(String text, int place) {
        ThornCores x = Thickets.written(text);
        Check.due(text, place < 0 ? Thickets.BAD_STATE : place, x::firstError);
        Check.due(text, place < 0, x::isValid);
    }

    private static void plantsDoNotMatter() {
        Document.quote("TEXT", "(Whether there are such plants and thorns does not matter for this.)");
        String[] lists = {"+", "+,+", "!a", "!p", "a-b", "a/b", "o-p", "p/o", "a-b,a-b", "a/b,a/b"};
        for (String list : lists) {
            for (int plants : new int[] {0, 1, 2, 15, 16}) {
                ThornCores x = Thickets.write(Thickets.of(plants, plants > 1 ? "ab" : ""), list);
                Check.due(list + " with " + plants, true, x::isValid);
                Check.due(list + " with " + plants, Thickets.BAD_STATE, x::firstError);
            }
        }
        ThornCores full = Thickets.write(Thickets.of(16, "ab"), "a-b,q");
        Check.due("an error all the same", 4, full::firstError);
    }
}
