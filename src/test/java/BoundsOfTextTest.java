/** The bounds that promises 30 to 33 name, a test for each sentence. */
public final class BoundsOfTextTest {
    private static final int LOWEST = 33;
    private static final int HIGHEST = 126;

    private final Checks checks = new Checks("BoundsOfTextTest");

    public static void main(String[] args) {
        BoundsOfTextTest test = new BoundsOfTextTest();
        test.appending();
        test.refusing();
        test.clearing();
        test.errors();
        test.checks.end();
    }

    private void appending() {
        checks.sentence("30: Appends up to 8 characters to the text.", this::oneToEight);
        checks.sentence("30: The lowest 8 bits of the number are the last character",
                this::lastCharacterLowest);
        checks.sentence("30: the first group of 8 bits that is 0 ends the characters",
                this::endedByAZero);
        checks.sentence("30: all higher bits must be 0", this::highestBitOfAll);
        checks.sentence("30: the codes of the characters, each 33 to 126", this::allowedCodes);
        checks.sentence("30: Returns the length of the text afterwards.", this::lengthAfterwards);
    }

    private void refusing() {
        checks.sentence("30: Throws if there is no character", this::noCharacter);
        checks.sentence("30: Throws if a code is out of range", this::codesOutOfRange);
        checks.sentence("30: Throws if a bit above the end is not 0", this::eachBitAboveTheEnd);
        checks.sentence("30: Throws if the text would be longer than 80 characters", this::tooLong);
    }

    private void clearing() {
        checks.sentence("31: Empties the text.", this::clearText);
        checks.sentence("31: Returns the length that it had.", this::lengthThatItHad);
        checks.sentence("32: Returns the length of the text.", this::textLength);
    }

    private void errors() {
        checks.sentence("33: Returns the index of the first error of the text", this::firstError);
        checks.sentence("33: the first character that cannot follow the characters before it",
                this::everyCharacter);
        checks.sentence("33: NONE if the text is correct", this::correctText);
        checks.sentence("33: also if it is empty", this::emptyText);
    }

    private void oneToEight() {
        String letters = "zyxwvuts";
        for (int count = 1; count <= 8; count++) {
            BackwardSearch x = new BackwardSearch();
            String some = letters.substring(0, count);
            checks.due("appended " + some, x.appendText(Make.packed(some)), count);
            x.takeLine();
            checks.due("the line", Picture.line(x), some);
        }
    }

    private void lastCharacterLowest() {
        BackwardSearch x = new BackwardSearch();
        x.appendText('a');
        x.appendText('b' << 8 | 'c');
        x.appendText((long) 'd' << 56 | Make.packed("efghijk"));
        x.takeLine();
        checks.due("in their order", Picture.line(x), "abcdefghijk");
    }

    private void endedByAZero() {
        for (int count = 1; count < 8; count++) {
            long characters = Make.packed("aaaaaaaa") >>> (8 * (8 - count));
            checks.due(count + " ended", new BackwardSearch().appendText(characters), count);
        }
        checks.due("eight need no end",
                new BackwardSearch().appendText(Make.packed("aaaaaaaa")), 8);
    }

    private void highestBitOfAll() {
        refused(Long.MIN_VALUE | 'a');
        refused(Long.MIN_VALUE | Make.packed("aaaaaaa"));
        refused(Long.MIN_VALUE | Make.packed("aaaaaaaa"));
        refused(0x0100000000000061L);
    }

    private void refused(long characters) {
        BackwardSearch x = new BackwardSearch();
        x.appendText('q');
        checks.badArgument(Long.toHexString(characters), x, () -> x.appendText(characters));
    }

    private void allowedCodes() {
        for (int code = LOWEST; code <= HIGHEST; code++) {
            checks.due("code " + code, new BackwardSearch().appendText(code), 1);
            for (int group = 0; group < 8; group++) {
                long characters = withCode(code, group);
                checks.due(Long.toHexString(characters),
                        new BackwardSearch().appendText(characters), 8);
            }
        }
    }

    private static long withCode(long code, int group) {
        return Make.packed("mmmmmmmm") & ~(255L << (8 * group)) | code << (8 * group);
    }

    private void lengthAfterwards() {
        BackwardSearch x = new BackwardSearch();
        for (int length = 1; length <= 80; length++) {
            checks.due("one by one", x.appendText('a'), length);
        }
        BackwardSearch eights = new BackwardSearch();
        for (int length = 8; length <= 80; length += 8) {
            checks.due("by eights", eights.appendText(Make.packed("aaaaaaaa")), length);
        }
    }

    private void noCharacter() {
        refused(0L);
    }

    private void codesOutOfRange() {
        for (int code = 1; code < 256; code++) {
            if (code < LOWEST || code > HIGHEST) {
                refused(code);
                for (int group = 0; group < 8; group++) {
                    refused(withCode(code, group));
                }
            }
        }
        refused(-1L);
        refused(Long.MAX_VALUE);
        refused(Long.MIN_VALUE);
    }

    /** Each bit above a group that is 0, with 0 to 6 characters below it. */
    private void eachBitAboveTheEnd() {
        for (int count = 0; count < 7; count++) {
            long characters = count == 0 ? 0L : Make.packed("aaaaaaaa") >>> (8 * (8 - count));
            for (int bit = 8 * count + 8; bit < 64; bit++) {
                refused(characters | 1L << bit);
            }
            // What stands above the end would be a right character elsewhere.
            refused(characters | (long) 'a' << (8 * count + 8));
        }
    }

    private void tooLong() {
        for (int count = 1; count <= 8; count++) {
            long characters = Make.packed("abcdefgh".substring(0, count));
            BackwardSearch fitting = new BackwardSearch();
            Make.append(fitting, "z".repeat(80 - count));
            checks.due("80, the last " + count, fitting.appendText(characters), 80);
            BackwardSearch x = new BackwardSearch();
            Make.append(x, "z".repeat(81 - count));
            checks.badState("81, the last " + count, x, () -> x.appendText(characters));
        }
        BackwardSearch full = new BackwardSearch();
        Make.append(full, "z".repeat(80));
        checks.badState("88", full, () -> full.appendText(Make.packed("abcdefgh")));
    }

    private void clearText() {
        for (int length : new int[] {0, 1, 80}) {
            BackwardSearch x = new BackwardSearch();
            Make.append(x, "!".repeat(length));
            x.clearText();
            checks.due("the length behind " + length, x.textLength(), 0);
            checks.due("the error behind " + length, x.textError(), BackwardSearch.NONE);
            checks.due("no change", x.undoCount(), 0);
            Make.append(x, "a".repeat(80));
            checks.due("room for all behind " + length, x.textLength(), 80);
        }
    }

    private void lengthThatItHad() {
        BackwardSearch x = new BackwardSearch();
        checks.due("none", x.clearText(), 0);
        Make.append(x, "a");
        checks.due("one", x.clearText(), 1);
        Make.append(x, "a".repeat(80));
        checks.due("most", x.clearText(), 80);
        checks.due("none again", x.clearText(), 0);
    }

    private void textLength() {
        BackwardSearch x = new BackwardSearch();
        checks.due("none", x.textLength(), 0);
        Make.append(x, "a".repeat(79));
        checks.due("one less than most", x.textLength(), 79);
        Make.append(x, "~");
        checks.due("most", x.textLength(), 80);
        x.clearText();
        checks.due("none again", x.textLength(), 0);
    }

    private void firstError() {
        for (int index = 0; index < 80; index++) {
            String right = "m".repeat(index);
            errorIs(right + "!", index);
            errorIs((right + "!" + "?".repeat(80)).substring(0, 80), index);
        }
    }

    private void everyCharacter() {
        for (int code = LOWEST; code <= HIGHEST; code++) {
            boolean letter = code >= 'a' && code <= 'z';
            errorIs(Character.toString(code), letter ? -1 : 0);
            errorIs("az" + (char) code + "za", letter ? -1 : 2);
        }
    }

    private void correctText() {
        errorIs("a", -1);
        errorIs("z", -1);
        errorIs("az".repeat(40), -1);
    }

    private void emptyText() {
        errorIs("", -1);
        BackwardSearch cleared = new BackwardSearch();
        Make.append(cleared, "!");
        cleared.clearText();
        checks.due("cleared", cleared.textError(), BackwardSearch.NONE);
        BackwardSearch taken = Make.search("abc", "ab");
        checks.due("taken", taken.textError(), BackwardSearch.NONE);
    }

    private void errorIs(String text, int due) {
        BackwardSearch x = new BackwardSearch();
        Make.append(x, text);
        checks.due("textError of " + text, x.textError(), due);
    }
}
