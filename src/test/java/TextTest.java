/** Promises 8 to 11: the text. */
public final class TextTest {
    public static void main(String[] args) {
        append();
        clearText();
        valid();
        errors();
        Check.finish();
    }

    private static void append() {
        ThornCores x = new ThornCores();
        for (int length = 1; length <= 60; length++) {
            Check.due("8 length", length, () -> x.append('+'));
        }
        Check.due("8 full", Thickets.BAD_STATE, () -> x.append('+'));
        Check.due("8 still 60", 60, x::clearText);
        Check.due("8 any character", 1, () -> x.append((char) 0));
        Check.due("8 great character", 2, () -> x.append((char) 0xffff));
        Check.due("8 kept apart", 0, x::firstError);
        x.clearText();
        Check.due("8 no cut to a byte", 1, () -> x.append((char) ('+' + 256)));
        Check.due("8 not a plus", false, x::isValid);
    }

    private static void clearText() {
        ThornCores x = Thickets.written("a-b");
        Check.due("9 length", 3, x::clearText);
        Check.due("9 empty", 0, x::clearText);
        Check.due("9 error of none", 0, x::firstError);
        Check.due("9 from the beginning", 1, () -> x.append('+'));
        Check.due("9 list", true, x::isValid);
    }

    private static void valid() {
        String[] lists = {"+", "a-b", "p/a", "!a", "!p", "+,+", "a-b,b/c,!d,+", "o-p,p-o"};
        for (String list : lists) {
            ThornCores x = Thickets.written(list);
            Check.due("10 " + list, true, x::isValid);
            Check.due("11 " + list, Thickets.BAD_STATE, x::firstError);
        }
    }

    private static void errors() {
        error("", 0);
        error(",", 0);
        error("q", 0);
        error("`", 0);
        error("A", 0);
        error("-", 0);
        error("/", 0);
        error("+", -1);
        error("++", 1);
        error("+a", 1);
        error("+,", 2);
        error("+,,", 2);
        error("a", 1);
        error("ab", 1);
        error("a,", 1);
        error("a+", 1);
        error("a!", 1);
        error("a-", 2);
        error("a-a", 2);
        error("a/a", 2);
        error("a-q", 2);
        error("a--", 2);
        error("a-,", 2);
        error("a-bc", 3);
        error("a-b-", 3);
        error("a-b,", 4);
        error("a-b,b-b", 6);
        error("a-b,a-a", 6);
        error("!", 1);
        error("!!", 1);
        error("!+", 1);
        error("!q", 1);
        error("!ab", 2);
        error("!a-b", 2);
        error("!a,!", 4);
        error("q-q,", 0);
        StringBuilder full = new StringBuilder("+");
        while (full.length() < 59) {
            full.append(",+");
        }
        error(full + ",", 60);
        error(full + "+", 59);
    }

    private static void error(String text, int place) {
        ThornCores x = Thickets.written(text);
        Check.due("10 " + text, place < 0, x::isValid);
        Check.due("11 " + text, place < 0 ? Thickets.BAD_STATE : place, x::firstError);
    }
}
