/** The bounds that promises 1 to 8 name, a test for each sentence. */
public final class BoundsOfChangesTest {
    private static final String UNTOUCHED = "found [] place 0 over false looks 0 compared 0 skipped 0";
    private static final String SIXTY = "abcdefghijklmnopqrstuvwxyz".repeat(2) + "zyxwvuts";
    private static final String SIXTEEN = "abcdefghijklmnoz";

    private final Checks checks = new Checks("BoundsOfChangesTest");

    public static void main(String[] args) {
        BoundsOfChangesTest test = new BoundsOfChangesTest();
        test.newObject();
        test.lines();
        test.words();
        test.rulesAndLooks();
        test.finishes();
        test.letters();
        test.checks.end();
    }

    private void newObject() {
        checks.sentence("1: Creates a search with an empty line and an empty word.",
                this::emptyLineAndWord);
    }

    private void lines() {
        checks.sentence("2: Makes the text the line", this::lineOfTheText);
        checks.sentence("2: empties the text", this::lineEmptiesTheText);
        checks.sentence("2: begins the search anew", this::lineBeginsAnew);
        checks.sentence("2: This is a change.", this::lineIsAChange);
        checks.sentence("2: Returns the length of the line.", this::lengthOfTheLine);
        checks.sentence("2: Throws if the text has an error", this::lineWithAnError);
        checks.sentence("2: Throws if the text has more than 60 letters", this::lineTooLong);
    }

    private void words() {
        checks.sentence("3: Makes the text the word", this::wordOfTheText);
        checks.sentence("3: empties the text", this::wordEmptiesTheText);
        checks.sentence("3: begins the search anew", this::wordBeginsAnew);
        checks.sentence("3: This is a change.", this::wordIsAChange);
        checks.sentence("3: Returns the length of the word.", this::lengthOfTheWord);
        checks.sentence("3: Throws if the text has an error", this::wordWithAnError);
        checks.sentence("3: Throws if the text has more than 16 letters", this::wordTooLong);
    }

    private void rulesAndLooks() {
        checks.sentence("4: Turns the rules on and off", this::onAndOff);
        checks.sentence("4: begins the search anew", this::rulesBeginAnew);
        checks.sentence("4: This is a change.", this::rulesAreAChange);
        checks.sentence("4: Returns how many rules were on before.", this::rulesBefore);
        checks.sentence("5: Makes a look. This is a change.", this::lookIsAChange);
        checks.sentence("5: Returns the skip.", this::skipPastTheLine);
        checks.sentence("5: Throws if the search is over", this::lookWhenOver);
    }

    private void finishes() {
        checks.sentence("6: Makes looks until the search is over.", this::allLooks);
        checks.sentence("6: This is a change, also if it is over.", this::finishWhenOver);
        checks.sentence("6: Returns how many looks are made.", this::looksMadeByFinish);
        checks.sentence("7: Begins the search anew.", this::rewindFromAnywhere);
        checks.sentence("7: This is a change.", this::rewindIsAChange);
        checks.sentence("7: Returns how many looks were made.", this::looksMadeBefore);
    }

    private void letters() {
        checks.sentence("8: Changes a letter of the line", this::firstAndLastLetter);
        checks.sentence("8: begins the search anew", this::letterBeginsAnew);
        checks.sentence("8: This is a change.", this::letterIsAChange);
        checks.sentence("8: Returns the previous letter.", this::previousLetter);
        checks.sentence("8: Throws if there is no such place", this::noSuchPlace);
        checks.sentence("8: Throws if there is no such letter", this::noSuchLetter);
    }

    private void emptyLineAndWord() {
        checks.due("new", Picture.of(new BackwardSearch()), "line  word  found [] place 0"
                + " over true looks 0 compared 0 skipped 0 text 0 error -1 undo 0");
    }

    private void lineOfTheText() {
        for (String line : new String[] {"", "z", SIXTY}) {
            BackwardSearch x = Make.search("abcabc", "ab");
            Make.append(x, line);
            x.takeLine();
            checks.due("the line", Picture.line(x), line);
            checks.due("the word", Picture.word(x), "ab");
        }
    }

    private void lineEmptiesTheText() {
        BackwardSearch x = new BackwardSearch();
        Make.append(x, SIXTY);
        x.takeLine();
        checks.due("behind a full line", x.textLength(), 0);
        checks.due("nothing to be emptied", x.clearText(), 0);
        checks.due("the next text", x.appendText('a'), 1);
        checks.due("the next line", x.takeLine(), 1);
    }

    private void lineBeginsAnew() {
        BackwardSearch x = Make.search("aaaa", "aa");
        x.look();
        Make.append(x, "aaaa");
        x.takeLine();
        checks.due("with the same line", Picture.ofSearch(x), UNTOUCHED);
        x.finish();
        Make.append(x, "aa");
        x.takeLine();
        checks.due("when over", Picture.ofSearch(x), UNTOUCHED);
        x.finish();
        x.takeLine();
        checks.due("with no line, over at once", Picture.ofSearch(x),
                UNTOUCHED.replace("false", "true"));
    }

    private void lineIsAChange() {
        BackwardSearch x = new BackwardSearch();
        checks.recorded("an empty line again", x, x::takeLine);
        Make.append(x, SIXTY);
        checks.recorded("a full line", x, x::takeLine);
        Make.append(x, "ab");
        x.takeLine();
        Make.append(x, "ab");
        checks.recorded("the same line", x, x::takeLine);
    }

    private void lengthOfTheLine() {
        BackwardSearch x = new BackwardSearch();
        checks.due("none", x.takeLine(), 0);
        Make.append(x, "a".repeat(59));
        checks.due("one less than most", x.takeLine(), 59);
        Make.append(x, "a".repeat(60));
        checks.due("most", x.takeLine(), 60);
        Make.append(x, "a");
        checks.due("one", x.takeLine(), 1);
    }

    private void lineWithAnError() {
        BackwardSearch x = Make.search("abcab", "ab");
        x.look();
        for (String text : new String[] {"!", "A", "Zab", "a`b", "ab{", "a".repeat(59) + "~",
                "a".repeat(60) + "~"}) {
            Make.append(x, text);
            checks.badState("a line of " + text, x, x::takeLine);
            checks.due("the text is left", x.clearText(), text.length());
        }
    }

    private void lineTooLong() {
        for (int length = 61; length <= 80; length++) {
            BackwardSearch x = Make.search("abcab", "ab");
            x.look();
            Make.append(x, "a".repeat(length));
            checks.badState(length + " letters", x, x::takeLine);
            checks.due("the text is left", x.clearText(), length);
            Make.append(x, "b".repeat(60));
            checks.due("60 letters", x.takeLine(), 60);
        }
    }

    private void wordOfTheText() {
        for (String word : new String[] {"", "z", SIXTEEN}) {
            BackwardSearch x = Make.search("abcabc", "ab");
            Make.append(x, word);
            x.takeWord();
            checks.due("the word", Picture.word(x), word);
            checks.due("the line", Picture.line(x), "abcabc");
        }
    }

    private void wordEmptiesTheText() {
        BackwardSearch x = new BackwardSearch();
        Make.append(x, SIXTEEN);
        x.takeWord();
        checks.due("behind a full word", x.textLength(), 0);
        checks.due("nothing to be emptied", x.clearText(), 0);
        checks.due("the next text", x.appendText('a'), 1);
        checks.due("the next word", x.takeWord(), 1);
    }

    private void wordBeginsAnew() {
        BackwardSearch x = Make.search("aaaa", "aa");
        x.look();
        Make.append(x, "aa");
        x.takeWord();
        checks.due("with the same word", Picture.ofSearch(x), UNTOUCHED);
        x.finish();
        Make.append(x, "aaaa");
        x.takeWord();
        checks.due("when over", Picture.ofSearch(x), UNTOUCHED);
        x.finish();
        x.takeWord();
        checks.due("with no word, over at once", Picture.ofSearch(x),
                UNTOUCHED.replace("false", "true"));
    }

    private void wordIsAChange() {
        BackwardSearch x = new BackwardSearch();
        checks.recorded("an empty word again", x, x::takeWord);
        Make.append(x, SIXTEEN);
        checks.recorded("a full word", x, x::takeWord);
        Make.append(x, "ab");
        x.takeWord();
        Make.append(x, "ab");
        checks.recorded("the same word", x, x::takeWord);
    }

    private void lengthOfTheWord() {
        BackwardSearch x = new BackwardSearch();
        checks.due("none", x.takeWord(), 0);
        Make.append(x, "a".repeat(15));
        checks.due("one less than most", x.takeWord(), 15);
        Make.append(x, "a".repeat(16));
        checks.due("most", x.takeWord(), 16);
        Make.append(x, "a");
        checks.due("one", x.takeWord(), 1);
    }

    private void wordWithAnError() {
        BackwardSearch x = Make.search("abcab", "ab");
        x.look();
        for (String text : new String[] {"!", "A", "Zab", "a`b", "ab{", "a".repeat(15) + "~",
                "a".repeat(16) + "~"}) {
            Make.append(x, text);
            checks.badState("a word of " + text, x, x::takeWord);
            checks.due("the text is left", x.clearText(), text.length());
        }
    }

    private void wordTooLong() {
        BackwardSearch x = Make.search("abcab", "ab");
        x.look();
        for (int length : new int[] {17, 18, 32, 59, 60, 61, 80}) {
            Make.append(x, "a".repeat(length));
            checks.badState(length + " letters", x, x::takeWord);
            checks.due("the text is left", x.clearText(), length);
        }
        Make.append(x, "a".repeat(17));
        checks.badState("17 letters for the word", x, x::takeWord);
        checks.due("but for the line", x.takeLine(), 17);
        Make.append(x, "b".repeat(16));
        checks.due("16 letters", x.takeWord(), 16);
    }

    /** A word that skips by its letters alone, and one that skips by its end alone. */
    private void onAndOff() {
        for (int rules = 0; rules < 4; rules++) {
            boolean byLetter = rules % 2 == 1;
            boolean byEnd = rules > 1;
            BackwardSearch x = Make.search("xxxaaa", "abc");
            x.setRules(byLetter, byEnd);
            checks.due("the letter rule of " + rules, x.look(), byLetter ? 3 : 1);
            Make.append(x, "aaaaaa");
            x.takeLine();
            Make.append(x, "baa");
            x.takeWord();
            checks.due("the end rule of " + rules, x.look(), byEnd ? 3 : 1);
        }
    }

    private void rulesBeginAnew() {
        BackwardSearch x = Make.search("aaaa", "aa");
        x.look();
        x.setRules(true, true);
        checks.due("with the same rules", Picture.ofSearch(x), UNTOUCHED);
        x.finish();
        x.setRules(false, false);
        checks.due("when over", Picture.ofSearch(x), UNTOUCHED);
    }

    private void rulesAreAChange() {
        BackwardSearch x = new BackwardSearch();
        checks.recorded("the same rules", x, () -> x.setRules(true, true));
        checks.recorded("no rule", x, () -> x.setRules(false, false));
        checks.due("both are back", x.setRules(true, true), 2);
    }

    private void rulesBefore() {
        BackwardSearch x = new BackwardSearch();
        checks.due("at first", x.setRules(false, false), 2);
        checks.due("none", x.setRules(true, false), 0);
        checks.due("the letter rule", x.setRules(false, true), 1);
        checks.due("the end rule", x.setRules(true, true), 1);
        checks.due("both", x.setRules(true, true), 2);
    }

    private void lookIsAChange() {
        BackwardSearch x = Make.search("aab", "ab");
        checks.recorded("the first look", x, x::look);
        x.look();
        checks.recorded("the last look", x, x::look);
        for (int change = 0; change < 6; change++) {
            x.rewind();
        }
        checks.recorded("a look behind six changes", x, x::look);
    }

    private void skipPastTheLine() {
        BackwardSearch x = Make.search("xxxx", "abc");
        checks.due("to the place 3, where no word fits", x.look(), 3);
        checks.due("the place", x.place(), 3);
        BackwardSearch most = Make.search("q".repeat(60), SIXTEEN);
        checks.due("the greatest skip", most.look(), 16);
        BackwardSearch least = Make.search("a".repeat(60), "a".repeat(16));
        checks.due("the least skip", least.look(), 1);
    }

    private void lookWhenOver() {
        BackwardSearch nothing = new BackwardSearch();
        checks.badState("nothing at all", nothing, nothing::look);
        BackwardSearch noWord = Make.search("ababab", "");
        checks.badState("no word", noWord, noWord::look);
        BackwardSearch noLine = Make.search("", "ab");
        checks.badState("no line", noLine, noLine::look);
        BackwardSearch shortLine = Make.search("ab", "abc");
        checks.badState("the word is longer", shortLine, shortLine::look);
        BackwardSearch over = Make.search("ababab", "ab");
        over.finish();
        checks.badState("finished", over, over::look);
        BackwardSearch looked = Make.search("ab", "ab");
        checks.due("the last look", looked.look(), 2);
        checks.badState("one look too many", looked, looked::look);
    }

    private void allLooks() {
        BackwardSearch x = Make.search("aaa", "aa");
        x.finish();
        checks.due("to the last place", Picture.ofSearch(x),
                "found [0 1] place 2 over true looks 2 compared 4 skipped 0");
        BackwardSearch exact = Make.search(SIXTEEN, SIXTEEN);
        exact.finish();
        checks.due("the only place", Picture.ofSearch(exact),
                "found [0] place 16 over true looks 1 compared 16 skipped 0");
    }

    private void finishWhenOver() {
        BackwardSearch x = Make.search("ababab", "ab");
        x.finish();
        checks.recorded("finished", x, x::finish);
        BackwardSearch none = new BackwardSearch();
        checks.recorded("no word", none, none::finish);
        BackwardSearch longer = Make.search("a", "ab");
        checks.recorded("a longer word", longer, longer::finish);
        for (int change = 0; change < 8; change++) {
            longer.finish();
        }
        checks.due("each is one", longer.undoCount(), 6);
    }

    private void looksMadeByFinish() {
        BackwardSearch most = Make.search("a".repeat(60), "a");
        checks.due("most", most.finish(), 60);
        checks.due("none left", most.finish(), 0);
        BackwardSearch some = Make.search("a".repeat(60), "a");
        some.look();
        checks.due("but for the one made before", some.finish(), 59);
        checks.due("no word", new BackwardSearch().finish(), 0);
        checks.due("a longer word", Make.search("a", "ab").finish(), 0);
        checks.due("a word that is the line", Make.search("ab", "ab").finish(), 1);
    }

    private void rewindFromAnywhere() {
        BackwardSearch x = Make.search("aaaa", "aa");
        x.rewind();
        checks.due("from the beginning", Picture.ofSearch(x), UNTOUCHED);
        x.look();
        x.rewind();
        checks.due("from a look", Picture.ofSearch(x), UNTOUCHED);
        x.finish();
        x.rewind();
        checks.due("from the end", Picture.ofSearch(x), UNTOUCHED);
    }

    private void rewindIsAChange() {
        BackwardSearch x = new BackwardSearch();
        checks.recorded("with nothing to alter", x, x::rewind);
        BackwardSearch over = Make.search("aaaa", "aa");
        over.finish();
        checks.recorded("from the end", over, over::rewind);
    }

    private void looksMadeBefore() {
        BackwardSearch x = Make.search("a".repeat(60), "a");
        checks.due("none", x.rewind(), 0);
        x.look();
        checks.due("one", x.rewind(), 1);
        x.finish();
        checks.due("most", x.rewind(), 60);
        checks.due("none again", x.rewind(), 0);
    }

    private void firstAndLastLetter() {
        BackwardSearch x = Make.search("m".repeat(60), "");
        x.setLetter(0, 0);
        x.setLetter(59, 25);
        checks.due("a full line", Picture.line(x), "a" + "m".repeat(58) + "z");
        BackwardSearch one = Make.search("m", "m");
        one.setLetter(0, 25);
        checks.due("a line of one", Picture.line(one), "z");
        checks.due("the word", Picture.word(one), "m");
    }

    private void letterBeginsAnew() {
        BackwardSearch x = Make.search("aaaa", "aa");
        x.look();
        x.setLetter(0, 0);
        checks.due("with the same letter", Picture.ofSearch(x), UNTOUCHED);
        x.finish();
        x.setLetter(3, 1);
        checks.due("when over", Picture.ofSearch(x), UNTOUCHED);
    }

    private void letterIsAChange() {
        BackwardSearch x = Make.search("abca", "a");
        x.finish();
        checks.recorded("another letter", x, () -> x.setLetter(0, 25));
        checks.recorded("the same letter", x, () -> x.setLetter(3, 0));
    }

    private void previousLetter() {
        BackwardSearch x = Make.search("az", "");
        checks.due("a", x.setLetter(0, 25), 0);
        checks.due("z", x.setLetter(1, 0), 25);
        checks.due("the one put there", x.setLetter(0, 25), 25);
    }

    private void noSuchPlace() {
        BackwardSearch x = Make.search("abca", "abc");
        x.look();
        for (int place : new int[] {-1, 4, 60, Integer.MIN_VALUE, Integer.MAX_VALUE}) {
            checks.noSuchPlace("place " + place, x, () -> x.setLetter(place, 0));
        }
        BackwardSearch full = Make.search("a".repeat(60), "a");
        checks.noSuchPlace("behind a full line", full, () -> full.setLetter(60, 0));
        BackwardSearch empty = new BackwardSearch();
        checks.noSuchPlace("an empty line", empty, () -> empty.setLetter(0, 0));
    }

    private void noSuchLetter() {
        BackwardSearch x = Make.search("abca", "abc");
        x.look();
        for (int letter : new int[] {-1, 26, 'a', Integer.MIN_VALUE, Integer.MAX_VALUE}) {
            checks.badArgument("letter " + letter, x, () -> x.setLetter(0, letter));
            checks.badArgument("letter " + letter + " at the end", x, () -> x.setLetter(3, letter));
        }
    }
}
