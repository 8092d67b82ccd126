/** Promises 30 to 33: the text; for the bounds see BoundsOfTextTest. */
public final class TextTest {
    private final Checks checks = new Checks("TextTest");

    public static void main(String[] args) {
        TextTest test = new TextTest();
        test.append();
        test.lengthAndClear();
        test.error();
        test.checks.end();
    }

    private void append() {
        BackwardSearch x = new BackwardSearch();
        checks.due("30: one", x.appendText('a'), 1);
        checks.due("30: three", x.appendText(Make.packed("bcd")), 4);
        checks.due("30: eight", x.appendText(Make.packed("efghijkl")), 12);
        checks.due("32: textLength", x.textLength(), 12);
        x.takeLine();
        checks.due("30: in their order", Picture.line(x), "abcdefghijkl");
        checks.due("30: not recorded", x.undoCount(), 1);
    }

    private void lengthAndClear() {
        BackwardSearch x = new BackwardSearch();
        checks.due("32: at first", x.textLength(), 0);
        checks.due("31: an empty text", x.clearText(), 0);
        Make.append(x, "abcde");
        checks.due("32: five", x.textLength(), 5);
        checks.due("31: five", x.clearText(), 5);
        checks.due("32: cleared", x.textLength(), 0);
        checks.due("31: cleared", x.clearText(), 0);
        checks.due("31: not recorded", x.undoCount(), 0);
        Make.append(x, "xy");
        x.takeWord();
        checks.due("31: only the new letters", Picture.word(x), "xy");
        checks.due("32: taken", x.textLength(), 0);
    }

    private void error() {
        errorIsAt("", -1);
        errorIsAt("az", -1);
        errorIsAt("a".repeat(80), -1);
        errorIsAt("a".repeat(79) + "A", 79);
        errorIsAt("`az", 0);
        errorIsAt("{az", 0);
        errorIsAt("aZz", 1);
        errorIsAt("ab1", 2);
        errorIsAt("ab~c!d", 2);
        BackwardSearch x = new BackwardSearch();
        Make.append(x, "!ab");
        x.clearText();
        checks.due("33: cleared", x.textError(), BackwardSearch.NONE);
        for (int code = 33; code <= 126; code++) {
            errorIsAt(Character.toString(code), code >= 'a' && code <= 'z' ? -1 : 0);
        }
    }

    private void errorIsAt(String text, int due) {
        BackwardSearch x = new BackwardSearch();
        Make.append(x, text);
        checks.due("33: " + text, x.textError(), due);
    }
}
