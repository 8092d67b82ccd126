/** The bounds that the document names under "The public face" and "Terms", a test for each sentence. */
public final class BoundsOfTermsTest {
    private static final String SIXTY = "a".repeat(60);
    private static final String SIXTEEN = "a".repeat(16);

    private final Checks checks = new Checks("BoundsOfTermsTest");

    public static void main(String[] args) {
        BoundsOfTermsTest test = new BoundsOfTermsTest();
        test.numbers();
        test.looks();
        test.skips();
        test.periodsAndText();
        test.checks.end();
    }

    private void numbers() {
        checks.sentence("An object is used for at most 512 calls after it has been made",
                this::theCall512);
        checks.sentence("There is no such thing.", this::none);
        checks.sentence("Letters are a to z, with the numbers 0 to 25.", this::lettersAToZ);
        checks.sentence("The line has at most 60 letters, the word at most 16", this::fullest);
        checks.sentence("both are empty at first", this::emptyAtFirst);
        checks.sentence("Places are counted from 0.", this::countedFromZero);
        checks.sentence("An empty word stands nowhere.", this::emptyWordStandsNowhere);
    }

    private void looks() {
        checks.sentence("The search has a place, 0 at first.", this::placeAtFirst);
        checks.sentence("until two letters differ", this::untilTwoDiffer);
        checks.sentence("or all are compared", this::allAreCompared);
        checks.sentence("greater than the length of the line, together", this::overBehindTheLine);
        checks.sentence("or the word is empty", this::overWithoutAWord);
        checks.sentence("If all letters were the same, the skip is the period of the word",
                this::skipByThePeriod);
        checks.sentence("the greater one of the letter skip and the end skip", this::greaterSkip);
        checks.sentence("of those rules that are on", this::rulesThatAreOn);
        checks.sentence("but at least 1", this::atLeastOne);
        checks.sentence("Both rules are on at first.", this::bothAtFirst);
    }

    private void skips() {
        checks.sentence("the greatest place of the word, whichever side of j", this::eitherSide);
        checks.sentence("or j and 1, together, if there is none", this::letterNotInTheWord);
        checks.sentence("it can be 0 or less", this::letterSkipDownTo);
        checks.sentence("the least number k of 1 or more", this::leastNumber);
        checks.sentence("with i - k being 0 or more", this::placesBehindTheDifference);
        checks.sentence("if j - k is 0 or more", this::placeOfTheDifference);
    }

    private void periodsAndText() {
        checks.sentence("A period of the word is a number p, 1 to m", this::periodsFromOneToAll);
        checks.sentence("the period is the least one", this::leastPeriod);
        checks.sentence("A border of the word is a number of letters, less than m",
                this::borderIsLess);
        checks.sentence("the border is the greatest one, which can be 0", this::greatestBorder);
        checks.sentence("The text, at most 80 characters long", this::fullText);
        checks.sentence("and empty at first", this::noTextAtFirst);
        checks.sentence("holds letters a to z", this::textOfLetters);
        checks.sentence("any number of them, also none", this::textOfNone);
    }

    /** The last call that counts is as good as the first one, whatever went before. */
    private void theCall512() {
        BackwardSearch changed = new BackwardSearch();
        for (int call = 1; call < 512; call++) {
            changed.rewind();
        }
        checks.due("the call 512 behind changes", changed.undoCount(), 6);
        BackwardSearch filled = new BackwardSearch();
        for (int call = 1; call < 511; call += 2) {
            filled.appendText('a');
            filled.takeLine();
        }
        filled.appendText('z');
        checks.due("the call 512 behind texts", filled.takeLine(), 1);
        BackwardSearch refusing = new BackwardSearch();
        for (int call = 1; call < 512; call++) {
            checks.due("a refused call", refuses(refusing), true);
        }
        checks.due("the call 512 behind refused ones", refusing.appendText('a'), 1);
    }

    private static boolean refuses(BackwardSearch x) {
        try {
            x.undo();
            return false;
        } catch (IllegalStateException thrown) {
            return true;
        }
    }

    private void none() {
        checks.due("NONE", BackwardSearch.NONE, -1);
        BackwardSearch x = Make.search("abc", "abc");
        checks.due("no place", x.lastPlaceOf(25), BackwardSearch.NONE);
        checks.due("no difference", x.differenceAt(0), BackwardSearch.NONE);
        checks.due("no error", x.textError(), BackwardSearch.NONE);
    }

    private void lettersAToZ() {
        String all = "abcdefghijklmnopqrstuvwxyz";
        BackwardSearch x = Make.search(all, "z");
        for (int letter = 0; letter < 26; letter++) {
            checks.due("the number of " + all.charAt(letter), x.lineLetter(letter), letter);
        }
        checks.due("z in the word", x.wordLetter(0), 25);
        checks.due("the last place of z", x.lastPlaceOf(25), 0);
        BackwardSearch first = Make.search("a", "a");
        checks.due("a in the word", first.wordLetter(0), 0);
        checks.due("the last place of a", first.lastPlaceOf(0), 0);
        checks.badArgument("below a", first, () -> first.lastPlaceOf(-1));
        checks.badArgument("above z", first, () -> first.lastPlaceOf(26));
    }

    /** The most looks, the most letters compared, and the farthest places there are. */
    private void fullest() {
        BackwardSearch same = Make.search(SIXTY, SIXTEEN);
        checks.due("a place for each look", same.finish(), 45);
        checks.due("all the same", Picture.ofSearch(same).replaceFirst("\\[.*]", "45"),
                "found 45 place 45 over true looks 45 compared 720 skipped 0");
        checks.due("the last place found", same.foundPlace(44), 44);
        BackwardSearch far = Make.search("b".repeat(60), SIXTEEN);
        checks.due("a word's length at a time", far.finish(), 3);
        checks.due("none the same", Picture.ofSearch(far),
                "found [] place 48 over true looks 3 compared 3 skipped 42");
        BackwardSearch slow = Make.search(SIXTY, "b" + "a".repeat(15));
        checks.due("with no rule", slow.comparedWith(false, false), 720);
        checks.due("with both", slow.comparedWith(true, true), 3 * 16);
    }

    private void emptyAtFirst() {
        BackwardSearch x = new BackwardSearch();
        checks.due("the line", x.lineLength(), 0);
        checks.due("the word", x.wordLength(), 0);
    }

    private void countedFromZero() {
        BackwardSearch x = Make.search("xaby", "ab");
        x.finish();
        checks.due("the first letter of the line", x.lineLetter(0), 23);
        checks.due("the first letter of the word", x.wordLetter(0), 0);
        checks.due("the second place of the line", x.foundPlace(0), 1);
        BackwardSearch first = Make.search("ab", "ab");
        first.look();
        checks.due("the first place of the line", first.foundPlace(0), 0);
    }

    private void emptyWordStandsNowhere() {
        for (String line : new String[] {"", "a", SIXTY}) {
            BackwardSearch x = Make.search(line, "");
            checks.due("occurrences", x.occurrences(), 0);
            checks.due("occurrencesByTrying", x.occurrencesByTrying(), 0);
            checks.due("comparedWith", x.comparedWith(true, true), 0);
            checks.due("finish", x.finish(), 0);
            checks.due("foundCount", x.foundCount(), 0);
        }
    }

    private void placeAtFirst() {
        checks.due("of a new object", new BackwardSearch().place(), 0);
        BackwardSearch x = Make.search("ab", "ab");
        checks.due("of a new search", x.place(), 0);
        x.look();
        checks.due("where the first look was", x.foundPlace(0), 0);
    }

    private void untilTwoDiffer() {
        comparesAtOnce("aaaaab", "aaaaaa", 1);
        comparesAtOnce("aaabaa", "aaaaaa", 3);
        comparesAtOnce("abaaaa", "aaaaaa", 5);
        comparesAtOnce("abaaba", "aaaaaa", 2);
    }

    private void allAreCompared() {
        comparesAtOnce("baaaaa", "aaaaaa", 6);
        comparesAtOnce("aaaaaa", "aaaaaa", 6);
        comparesAtOnce("a", "a", 1);
        comparesAtOnce("b", "a", 1);
    }

    private void comparesAtOnce(String line, String word, int due) {
        BackwardSearch x = Make.search(line, word);
        x.look();
        checks.due(word + " looked for in " + line, x.comparedCount(), due);
    }

    private void overBehindTheLine() {
        checks.due("0 and 4, 3 long", Make.search("abc", "wxyz").isOver(), true);
        checks.due("0 and 3, 3 long", Make.search("abc", "xyz").isOver(), false);
        checks.due("0 and 1, 0 long", Make.search("", "x").isOver(), true);
        checks.due("0 and 16, 15 long", Make.search("a".repeat(15), SIXTEEN).isOver(), true);
        BackwardSearch x = Make.search("abc", "yz");
        x.setRules(false, false);
        x.look();
        checks.due("1 and 2, 3 long", x.isOver(), false);
        x.look();
        checks.due("2 and 2, 3 long", x.isOver(), true);
        BackwardSearch far = Make.search(SIXTY, SIXTEEN);
        for (int look = 0; look < 44; look++) {
            far.look();
        }
        checks.due("44 and 16, 60 long", far.isOver(), false);
        far.look();
        checks.due("45 and 16, 60 long", far.isOver(), true);
    }

    private void overWithoutAWord() {
        checks.due("a full line", Make.search(SIXTY, "").isOver(), true);
        checks.due("an empty line", Make.search("", "").isOver(), true);
        BackwardSearch x = Make.search("abc", "ab");
        x.takeWord();
        checks.due("an emptied word", x.isOver(), true);
    }

    private void skipByThePeriod() {
        skipsAtOnce("a", "a", true, true, 1);
        skipsAtOnce(SIXTEEN, SIXTEEN, true, true, 1);
        skipsAtOnce("abcdefghijklmnop", "abcdefghijklmnop", true, true, 16);
        skipsAtOnce("abcabcab", "abcabcab", true, true, 3);
        skipsAtOnce("abcabcab", "abcabcab", false, false, 3);
        BackwardSearch x = Make.search(SIXTY, "a");
        x.finish();
        checks.due("the place is found, each of 60", x.foundPlace(59), 59);
    }

    private void greaterSkip() {
        skipsAtOnce("xxx", "abc", true, true, 3);
        skipsAtOnce("aaa", "baa", true, true, 3);
        // Both skips are 1.
        skipsAtOnce("xxa", "aab", true, true, 1);
        // The letter skip is -2.
        skipsAtOnce("bbab", "aaab", true, true, 4);
    }

    private void rulesThatAreOn() {
        skipsAtOnce("xxx", "abc", true, false, 3);
        skipsAtOnce("xxx", "abc", false, true, 1);
        skipsAtOnce("aaa", "baa", true, false, 1);
        skipsAtOnce("aaa", "baa", false, true, 3);
        skipsAtOnce("xxx", "abc", false, false, 1);
        skipsAtOnce("aaa", "baa", false, false, 1);
    }

    private void atLeastOne() {
        // The letter skip is -1, then -15; at last, no rule tells a skip.
        skipsAtOnce("xbb", "aab", true, false, 1);
        skipsAtOnce(SIXTEEN, "b" + "a".repeat(15), true, false, 1);
        skipsAtOnce(SIXTEEN, "b" + "a".repeat(15), false, false, 1);
    }

    private void skipsAtOnce(String line, String word, boolean byLetter, boolean byEnd, int due) {
        BackwardSearch x = Make.search(line, word);
        x.setRules(byLetter, byEnd);
        String what = word + " looked for in " + line + " with " + byLetter + ", " + byEnd;
        checks.due(what, x.look(), due);
        checks.due(what + ", the place", x.place(), due);
    }

    private void bothAtFirst() {
        checks.due("counted", new BackwardSearch().setRules(false, false), 2);
        checks.due("the letter rule skips", Make.search("xxx", "abc").look(), 3);
        checks.due("the end rule skips", Make.search("aaa", "baa").look(), 3);
    }

    private void eitherSide() {
        BackwardSearch x = Make.search("", "abcacb");
        checks.due("ahead of j alone", x.letterSkip(4, 0), 1);
        checks.due("behind j alone", x.letterSkip(2, 1), -3);
        checks.due("on both sides", x.letterSkip(1, 0), -2);
        checks.due("at j and ahead of it", x.letterSkip(4, 2), 0);
        checks.due("at j and behind it", x.letterSkip(2, 2), -2);
    }

    private void letterNotInTheWord() {
        BackwardSearch x = Make.search("", SIXTEEN);
        checks.due("j is 0", x.letterSkip(0, 1), 1);
        checks.due("j is 15", x.letterSkip(15, 25), 16);
    }

    private void letterSkipDownTo() {
        BackwardSearch x = Make.search("", SIXTEEN);
        checks.due("0", x.letterSkip(15, 0), 0);
        checks.due("-1", x.letterSkip(14, 0), -1);
        checks.due("the least one", x.letterSkip(0, 0), -15);
    }

    private void leastNumber() {
        endSkipIs("ab", 1, 1);
        endSkipIs("a", 0, 1);
        endSkipIs("aa", 1, 2);
        // 2 and 4 fit as well as 1 does not: the least one counts.
        endSkipIs("ababab", 0, 2);
        endSkipIs(SIXTEEN, 15, 16);
        endSkipIs("a".repeat(15) + "b", 14, 16);
    }

    /** At the number that fits, the place i - k is just 0, or just below. */
    private void placesBehindTheDifference() {
        endSkipIs("abca", 2, 3);
        endSkipIs("abcd", 2, 4);
        endSkipIs("abcab", 2, 3);
        endSkipIs("abcab", 1, 3);
        endSkipIs("abcab", 0, 3);
    }

    /** At the number that fits, the place j - k is just 0, or just below. */
    private void placeOfTheDifference() {
        endSkipIs("abb", 2, 2);
        endSkipIs("aab", 2, 1);
        endSkipIs("bab", 2, 1);
        endSkipIs("baab", 1, 3);
        endSkipIs("abab", 2, 4);
        endSkipIs("acabab", 3, 2);
        endSkipIs("cbabab", 3, 6);
    }

    private void endSkipIs(String word, int place, int due) {
        BackwardSearch x = Make.search("", word);
        checks.due("endSkip of " + word + " at " + place, x.endSkip(place), due);
        checks.due("by trying, " + word + " at " + place, x.endSkipByTrying(place), due);
    }

    private void periodsFromOneToAll() {
        periodIs("a", 1);
        periodIs("aa", 1);
        periodIs("ab", 2);
        periodIs(SIXTEEN, 1);
        periodIs("a".repeat(15) + "b", 16);
        periodIs("abcdefghijklmnoa", 15);
    }

    private void leastPeriod() {
        periodIs("aaaa", 1);
        periodIs("ababab", 2);
        periodIs("abaaba", 3);
    }

    private void periodIs(String word, int due) {
        checks.due("period of " + word, Make.search("", word).period(), due);
    }

    /** The whole word begins and ends with itself, which does not count. */
    private void borderIsLess() {
        borderIs("a", 0);
        borderIs("aa", 1);
        borderIs(SIXTEEN, 15);
    }

    private void greatestBorder() {
        borderIs("ab", 0);
        borderIs("aba", 1);
        borderIs("ababa", 3);
        borderIs("aabaa", 2);
        borderIs("a".repeat(15) + "b", 0);
    }

    private void borderIs(String word, int due) {
        checks.due("border of " + word, Make.search("", word).border(), due);
    }

    private void fullText() {
        BackwardSearch x = new BackwardSearch();
        Make.append(x, "a".repeat(80));
        checks.due("80", x.textLength(), 80);
        checks.badState("81", x, () -> x.appendText('a'));
    }

    private void noTextAtFirst() {
        BackwardSearch x = new BackwardSearch();
        checks.due("the length", x.textLength(), 0);
        checks.due("the line made of it", x.takeLine(), 0);
    }

    /** The two codes ahead of a and behind z can be appended, but are errors. */
    private void textOfLetters() {
        errorIs("az", BackwardSearch.NONE);
        errorIs("`", 0);
        errorIs("{", 0);
        errorIs("A", 0);
        errorIs("Z", 0);
    }

    private void textOfNone() {
        errorIs("", BackwardSearch.NONE);
        errorIs("q", BackwardSearch.NONE);
        errorIs("q".repeat(80), BackwardSearch.NONE);
        checks.due("a word of none", new BackwardSearch().takeWord(), 0);
    }

    private void errorIs(String text, int due) {
        BackwardSearch x = new BackwardSearch();
        Make.append(x, text);
        checks.due("textError of " + text, x.textError(), due);
    }
}
