/** Promises 1 to 8: a new object, and what changes it; for the bounds see BoundsOfChangesTest. */
public final class ChangesTest {
    private static final String UNTOUCHED = "found [] place 0 over false looks 0 compared 0 skipped 0";

    private final Checks checks = new Checks("ChangesTest");

    public static void main(String[] args) {
        ChangesTest test = new ChangesTest();
        test.newObject();
        test.takeLine();
        test.takeWord();
        test.setRules();
        test.rulesDecideTheSkip();
        test.lookThatFinds();
        test.lookThatDiffers();
        test.finish();
        test.rewind();
        test.setLetter();
        test.checks.end();
    }

    private void newObject() {
        BackwardSearch x = new BackwardSearch();
        checks.due("1: new", Picture.of(x), "line  word  found [] place 0 over true looks 0"
                + " compared 0 skipped 0 text 0 error -1 undo 0");
        checks.due("1: both rules on at first", x.setRules(true, true), 2);
        BackwardSearch other = Make.search("abc", "ab");
        checks.due("1: another object apart", other.lineLength() + x.lineLength(), 3);
    }

    private void takeLine() {
        BackwardSearch x = Make.search("aaaa", "aa");
        x.look();
        Make.append(x, "azbyc");
        checks.due("2: takeLine", x.takeLine(), 5);
        checks.due("2: the line", Picture.line(x), "azbyc");
        checks.due("2: the word stays", Picture.word(x), "aa");
        checks.due("2: the text is empty", x.textLength(), 0);
        checks.due("2: the search anew", Picture.ofSearch(x), UNTOUCHED);
        x.look();
        checks.recorded("2: takeLine of no text", x, () -> checks.due("2", x.takeLine(), 0));
        checks.due("2: the line is back", Picture.line(x), "azbyc");
        Make.append(x, "q");
        checks.recorded("2: takeLine of a text", x, () -> checks.due("2", x.takeLine(), 1));
        checks.due("2: undo leaves the text alone", x.textLength(), 0);
        BackwardSearch ruled = Make.search("aaab", "ab");
        ruled.setRules(true, false);
        ruled.takeLine();
        checks.due("2: the rules stay", ruled.setRules(false, false), 1);
    }

    private void takeWord() {
        BackwardSearch x = Make.search("aaaa", "aa");
        x.look();
        Make.append(x, "zab");
        checks.due("3: takeWord", x.takeWord(), 3);
        checks.due("3: the word", Picture.word(x), "zab");
        checks.due("3: the line stays", Picture.line(x), "aaaa");
        checks.due("3: the text is empty", x.textLength(), 0);
        checks.due("3: the search anew", Picture.ofSearch(x), UNTOUCHED);
        x.look();
        checks.recorded("3: takeWord of no text", x, () -> checks.due("3", x.takeWord(), 0));
        checks.due("3: the word is back", Picture.word(x), "zab");
        Make.append(x, "q");
        checks.recorded("3: takeWord of a text", x, () -> checks.due("3", x.takeWord(), 1));
        checks.due("3: undo leaves the text alone", x.textLength(), 0);
        x.setRules(false, true);
        x.takeWord();
        checks.due("3: the rules stay", x.setRules(false, false), 1);
    }

    private void setRules() {
        BackwardSearch x = Make.search("aaaa", "aa");
        x.look();
        checks.due("4: from both", x.setRules(true, false), 2);
        checks.due("4: the search anew", Picture.ofSearch(x), UNTOUCHED);
        checks.due("4: from the letter rule", x.setRules(false, true), 1);
        checks.due("4: from the end rule", x.setRules(false, false), 1);
        checks.due("4: from none", x.setRules(true, true), 0);
        checks.due("4: line and word stay", Picture.line(x) + Picture.word(x), "aaaaaa");
        x.finish();
        checks.recorded("4: setRules", x, () -> x.setRules(true, false));
        checks.recorded("4: setRules to the same", x, () -> x.setRules(true, true));
        checks.due("4: undo brings the rules back", x.setRules(true, false), 2);
    }

    /** In the first line the letter rule skips further, in the second one the end rule. */
    private void rulesDecideTheSkip() {
        checks.due("4: letter further, both", skipWith("xxxxxx", "abc", true, true), 3);
        checks.due("4: letter further, letter rule", skipWith("xxxxxx", "abc", true, false), 3);
        checks.due("4: letter further, end rule", skipWith("xxxxxx", "abc", false, true), 1);
        checks.due("4: letter further, none", skipWith("xxxxxx", "abc", false, false), 1);
        checks.due("4: end further, both", skipWith("aaaaaa", "baa", true, true), 3);
        checks.due("4: end further, letter rule", skipWith("aaaaaa", "baa", true, false), 1);
        checks.due("4: end further, end rule", skipWith("aaaaaa", "baa", false, true), 3);
        checks.due("4: end further, none", skipWith("aaaaaa", "baa", false, false), 1);
        checks.due("4: found, no rule is asked", skipWith("ababab", "abab", false, false), 2);
    }

    private static int skipWith(String line, String word, boolean letterRule, boolean endRule) {
        BackwardSearch x = Make.search(line, word);
        x.setRules(letterRule, endRule);
        return x.look();
    }

    private void lookThatFinds() {
        BackwardSearch x = Make.search("abababb", "abab");
        checks.recorded("5: look", x, x::look);
        checks.due("5: found, the skip is the period", x.look(), 2);
        checks.due("5: behind a found place", Picture.ofSearch(x),
                "found [0] place 2 over false looks 1 compared 4 skipped 1");
        checks.due("5: found again", x.look(), 2);
        checks.due("5: behind two found places", Picture.ofSearch(x),
                "found [0 2] place 4 over true looks 2 compared 8 skipped 2");
        BackwardSearch fitting = Make.search("abc", "abc");
        checks.due("5: a word that is the line", fitting.look(), 3);
        checks.due("5: found to the end", Picture.ofSearch(fitting),
                "found [0] place 3 over true looks 1 compared 3 skipped 0");
    }

    private void lookThatDiffers() {
        BackwardSearch x = Make.search("xbcabxabc", "abc");
        checks.due("5: x is not in the word, at its place 0", x.look(), 3);
        checks.due("5: three compared", x.comparedCount(), 3);
        checks.due("5: x at the place 2", x.look(), 3);
        checks.due("5: one more compared", x.comparedCount(), 4);
        checks.due("5: found", x.look(), 3);
        checks.due("5: all", Picture.ofSearch(x),
                "found [6] place 9 over true looks 3 compared 7 skipped 4");
        BackwardSearch back = Make.search("aaaaa", "ba");
        back.setRules(true, false);
        checks.due("5: a letter skip below 0 is 1", back.look(), 1);
        checks.due("5: the place", back.place(), 1);
    }

    private void finish() {
        BackwardSearch x = Make.search("abcabcab", "abc");
        checks.recorded("6: finish", x, () -> checks.due("6: two looks", x.finish(), 2));
        x.look();
        int changes = x.undoCount();
        checks.due("6: the one look left", x.finish(), 1);
        checks.due("6: all looks", Picture.ofSearch(x),
                "found [0 3] place 6 over true looks 2 compared 6 skipped 4");
        checks.due("6: one change", x.undoCount(), changes + 1);
        checks.recorded("6: finish when over", x, () -> checks.due("6", x.finish(), 0));
        BackwardSearch most = Make.search("a".repeat(60), "a");
        checks.due("6: sixty looks", most.finish(), 60);
        checks.due("6: sixty places", most.foundCount(), 60);
        BackwardSearch none = new BackwardSearch();
        checks.due("6: no word", none.finish(), 0);
        checks.due("6: a change all the same", none.undoCount(), 1);
    }

    private void rewind() {
        BackwardSearch x = Make.search("aaaa", "aa");
        checks.recorded("7: rewind at the beginning", x, () -> checks.due("7", x.rewind(), 0));
        x.look();
        x.look();
        checks.recorded("7: rewind", x, () -> checks.due("7: looks", x.rewind(), 2));
        x.rewind();
        checks.due("7: the search anew", Picture.ofState(x), "line aaaa word aa " + UNTOUCHED);
        x.finish();
        checks.due("7: from the end", x.rewind(), 3);
        x.setRules(false, false);
        x.rewind();
        checks.due("7: the rules stay", x.setRules(true, true), 0);
    }

    private void setLetter() {
        BackwardSearch x = Make.search("abza", "za");
        x.look();
        checks.due("8: the previous letter", x.setLetter(2, 0), 25);
        checks.due("8: the line", Picture.line(x), "abaa");
        checks.due("8: the search anew", Picture.ofSearch(x), UNTOUCHED);
        checks.due("8: the first place", x.setLetter(0, 25), 0);
        checks.due("8: the last place", x.setLetter(3, 25), 0);
        checks.due("8: the whole line", Picture.line(x), "zbaz");
        x.finish();
        checks.recorded("8: setLetter", x, () -> x.setLetter(1, 7));
        checks.recorded("8: the same letter", x, () -> checks.due("8", x.setLetter(1, 1), 1));
        x.finish();
        x.setLetter(1, 1);
        checks.due("8: the same letter begins anew, too", Picture.ofSearch(x), UNTOUCHED);
        checks.due("8: the word stays", Picture.word(x), "za");
    }
}
