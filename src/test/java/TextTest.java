/** Promises 30 to 33: the text. */
public final class TextTest {
    private final Checks checks = new Checks("TextTest");

    public static void main(String[] args) {
        TextTest test = new TextTest();
        test.append();
        test.everyCode();
        test.appendRefuses();
        test.appendAtTheLimit();
        test.lengthAndClear();
        test.error();
        test.textIsNoState();
        test.checks.end();
    }

    private void append() {
        BackwardSearch x = new BackwardSearch();
        checks.due("30: one", x.appendText('a'), 1);
        checks.due("30: three", x.appendText(Make.packed("bcd")), 4);
        checks.due("30: eight", x.appendText(Make.packed("efghijkl")), 12);
        checks.due("32: textLength", x.textLength(), 12);
        x.takeLine();
        checks.due("30: in their order", Picture.line(x), "abcdefghijkl");
        checks.due("30: not recorded", x.undoCount(), 1);
    }

    /** Each code alone, and in each of the eight groups with letters about it. */
    private void everyCode() {
        for (int code = 1; code < 256; code++) {
            boolean good = code >= 33 && code <= 126;
            appendsOrRefuses(code, good ? 1 : 0);
            for (int group = 0; group < 8; group++) {
                long about = Make.packed("aaaaaaaa") & ~(255L << (8 * group));
                appendsOrRefuses(about | (long) code << (8 * group), good ? 8 : 0);
            }
        }
    }

    private void appendsOrRefuses(long characters, int length) {
        BackwardSearch x = new BackwardSearch();
        String what = "30: " + Long.toHexString(characters);
        if (length > 0) {
            checks.due(what, x.appendText(characters), length);
        } else {
            checks.badArgument(what, x, () -> x.appendText(characters));
        }
    }

    private void appendRefuses() {
        appendsOrRefuses(0L, 0);
        appendsOrRefuses(-1L, 0);
        appendsOrRefuses(Long.MIN_VALUE, 0);
        appendsOrRefuses(Long.MAX_VALUE, 0);
        appendsOrRefuses(Long.MIN_VALUE | 'a', 0);
        appendsOrRefuses(0x6100L, 0);
        appendsOrRefuses(0x610061L, 0);
        appendsOrRefuses(0x0100000000000061L, 0);
        appendsOrRefuses(0x6100616161616161L, 0);
        appendsOrRefuses(0x0061616161616161L, 7);
        appendsOrRefuses(0x7e21L, 2);
    }

    private void appendAtTheLimit() {
        BackwardSearch x = new BackwardSearch();
        Make.append(x, "a".repeat(73));
        checks.badState("30: 81", x, () -> x.appendText(Make.packed("abcdefgh")));
        checks.badArgument("30: a wrong code first", x, () -> x.appendText(Make.packed("abcd fgh")));
        checks.due("30: 80", x.appendText(Make.packed("abcdefg")), 80);
        checks.badState("30: one more", x, () -> x.appendText('a'));
        checks.badArgument("30: none, with a full text", x, () -> x.appendText(0L));
        checks.due("31: 80", x.clearText(), 80);
        checks.due("30: from the beginning", x.appendText('z'), 1);
    }

    private void lengthAndClear() {
        BackwardSearch x = new BackwardSearch();
        checks.due("32: at first", x.textLength(), 0);
        checks.due("31: an empty text", x.clearText(), 0);
        Make.append(x, "abcde");
        checks.due("32: five", x.textLength(), 5);
        checks.due("31: five", x.clearText(), 5);
        checks.due("32: cleared", x.textLength(), 0);
        checks.due("31: cleared", x.clearText(), 0);
        checks.due("31: not recorded", x.undoCount(), 0);
        Make.append(x, "xy");
        x.takeWord();
        checks.due("31: only the new letters", Picture.word(x), "xy");
        checks.due("32: taken", x.textLength(), 0);
    }

    private void error() {
        errorIsAt("", -1);
        errorIsAt("az", -1);
        errorIsAt("a".repeat(80), -1);
        errorIsAt("a".repeat(79) + "A", 79);
        errorIsAt("`az", 0);
        errorIsAt("{az", 0);
        errorIsAt("aZz", 1);
        errorIsAt("ab1", 2);
        errorIsAt("ab~c!d", 2);
        BackwardSearch x = new BackwardSearch();
        Make.append(x, "!ab");
        x.clearText();
        checks.due("33: cleared", x.textError(), BackwardSearch.NONE);
        for (int code = 33; code <= 126; code++) {
            errorIsAt(Character.toString(code), code >= 'a' && code <= 'z' ? -1 : 0);
        }
    }

    private void errorIsAt(String text, int due) {
        BackwardSearch x = new BackwardSearch();
        Make.append(x, text);
        checks.due("33: " + text, x.textError(), due);
    }

    private void textIsNoState() {
        BackwardSearch x = Make.search("abc", "ab");
        x.saveState(0);
        Make.append(x, "pq");
        x.undo();
        checks.due("34: undo leaves the text", x.textLength(), 2);
        x.loadState(0);
        checks.due("37: loadState leaves the text", x.textLength(), 2);
        x.takeWord();
        x.undo();
        checks.due("34: undo does not bring a text back", x.textLength(), 0);
    }
}
