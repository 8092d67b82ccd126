/** Promises 9 to 12: the line and the word; for the bounds see BoundsOfAnswersTest. */
public final class LineAndWordTest {
    private final Checks checks = new Checks("LineAndWordTest");

    public static void main(String[] args) {
        LineAndWordTest test = new LineAndWordTest();
        test.lengths();
        test.letters();
        test.checks.end();
    }

    private void lengths() {
        BackwardSearch x = Make.search("abcdefg", "xyz");
        checks.due("9: lineLength", x.lineLength(), 7);
        checks.due("10: wordLength", x.wordLength(), 3);
        Make.append(x, "ab");
        checks.due("9: the text is not the line", x.lineLength(), 7);
        checks.due("10: the text is not the word", x.wordLength(), 3);
        x.finish();
        checks.due("9: looks leave the line", x.lineLength(), 7);
        checks.due("10: looks leave the word", x.wordLength(), 3);
    }

    private void letters() {
        BackwardSearch x = Make.search("azmb", "zya");
        checks.due("11: the first letter", x.lineLetter(0), 0);
        checks.due("11: the second letter", x.lineLetter(1), 25);
        checks.due("11: the third letter", x.lineLetter(2), 12);
        checks.due("11: the last letter", x.lineLetter(3), 1);
        checks.due("12: the first letter", x.wordLetter(0), 25);
        checks.due("12: the second letter", x.wordLetter(1), 24);
        checks.due("12: the last letter", x.wordLetter(2), 0);
        x.setLetter(1, 4);
        checks.due("11: a changed letter", x.lineLetter(1), 4);
    }
}
