/** Promises 20 to 25: what the word says of the skips; for the bounds see BoundsOfAnswersTest. */
public final class SkipsTest {
    private final Checks checks = new Checks("SkipsTest");

    public static void main(String[] args) {
        SkipsTest test = new SkipsTest();
        test.lastPlaceOf();
        test.letterSkip();
        test.endSkips();
        test.bordersAndPeriods();
        test.oneWordBehindAnother();
        test.manyWords();
        test.checks.end();
    }

    private void lastPlaceOf() {
        BackwardSearch x = Make.search("mmmm", "abzab");
        checks.due("20: a", x.lastPlaceOf(0), 3);
        checks.due("20: b", x.lastPlaceOf(1), 4);
        checks.due("20: z", x.lastPlaceOf(25), 2);
        checks.due("20: m is only in the line", x.lastPlaceOf(12), BackwardSearch.NONE);
        checks.due("20: an empty word", new BackwardSearch().lastPlaceOf(0), BackwardSearch.NONE);
        checks.badArgument("20: -1", x, () -> x.lastPlaceOf(-1));
        checks.badArgument("20: 26", x, () -> x.lastPlaceOf(26));
        checks.badArgument("20: lowest", x, () -> x.lastPlaceOf(Integer.MIN_VALUE));
        BackwardSearch empty = new BackwardSearch();
        checks.badArgument("20: 26 and no word", empty, () -> empty.lastPlaceOf(26));
    }

    private void letterSkip() {
        BackwardSearch x = Make.search("", "abcbd");
        checks.due("21: ahead of the place", x.letterSkip(4, 1), 1);
        checks.due("21: far ahead of it", x.letterSkip(4, 0), 4);
        checks.due("21: at the place", x.letterSkip(3, 1), 0);
        checks.due("21: behind the place", x.letterSkip(1, 3), -3);
        checks.due("21: the greatest place, not the nearest", x.letterSkip(2, 1), -1);
        checks.due("21: not in the word, place 0", x.letterSkip(0, 25), 1);
        checks.due("21: not in the word, place 4", x.letterSkip(4, 25), 5);
    }

    private void endSkips() {
        endSkipsAre("gcagagag", 7, 7, 7, 2, 7, 4, 7, 1);
        endSkipsAre("aaaa", 1, 2, 3, 4);
        endSkipsAre("abcd", 4, 4, 4, 1);
        endSkipsAre("a", 1);
        endSkipsAre("ana", 2, 2, 1);
        endSkipsAre("abab", 2, 2, 4, 1);
        endSkipsAre("aaaaaaaaaaaaaaaa", 1, 2, 3, 4, 5, 6, 7, 8, 9, 10, 11, 12, 13, 14, 15, 16);
    }

    private void endSkipsAre(String word, int... skips) {
        BackwardSearch x = Make.search("", word);
        for (int place = 0; place < skips.length; place++) {
            checks.due("22: " + word + " at " + place, x.endSkip(place), skips[place]);
            checks.due("23: " + word + " at " + place, x.endSkipByTrying(place), skips[place]);
        }
    }

    private void bordersAndPeriods() {
        borderAndPeriodAre("", 0, 0);
        borderAndPeriodAre("a", 0, 1);
        borderAndPeriodAre("ab", 0, 2);
        borderAndPeriodAre("aa", 1, 1);
        borderAndPeriodAre("aba", 1, 2);
        borderAndPeriodAre("ababa", 3, 2);
        borderAndPeriodAre("abcab", 2, 3);
        borderAndPeriodAre("abcabd", 0, 6);
        borderAndPeriodAre("aabaaabaaab", 7, 4);
        borderAndPeriodAre("aaaaaaaaaaaaaaaa", 15, 1);
        borderAndPeriodAre("aaaaaaaaaaaaaaab", 0, 16);
        borderAndPeriodAre("aaaaaaabaaaaaaaa", 7, 9);
    }

    private void borderAndPeriodAre(String word, int border, int period) {
        BackwardSearch x = Make.search("", word);
        checks.due("24: border of " + word, x.border(), border);
        checks.due("25: period of " + word, x.period(), period);
    }

    /** Each call is the first one behind a new word, so nothing of the old one may be left. */
    private void oneWordBehindAnother() {
        BackwardSearch x = Make.search("", "aaaaaaaa");
        checks.due("22: the old word", x.endSkip(6), 7);
        newWord(x, "ana");
        checks.due("25: period of the new word", x.period(), 2);
        newWord(x, "abcd");
        checks.due("24: border of the new word", x.border(), 0);
        newWord(x, "abab");
        checks.due("22: the new word, place 0", x.endSkip(0), 2);
        checks.due("22: the new word, place 2", x.endSkip(2), 4);
        x.undo();
        checks.due("22: the old word again", x.endSkip(2), 4);
        checks.due("23: the old word again", x.endSkipByTrying(2), 4);
        checks.due("25: the old word again", x.period(), 4);
    }

    private static void newWord(BackwardSearch x, String word) {
        Make.append(x, word);
        x.takeWord();
    }

    private void manyWords() {
        for (int length = 1; length <= 10; length++) {
            allWords(length, 2);
        }
        for (int length = 1; length <= 7; length++) {
            allWords(length, 3);
        }
        allWords(16, 2);
    }

    private void allWords(int length, int kinds) {
        int count = (int) Math.pow(kinds, length);
        for (int number = 0; number < count; number++) {
            StringBuilder word = new StringBuilder();
            for (int rest = number; word.length() < length; rest /= kinds) {
                word.append((char) ('a' + rest % kinds));
            }
            asThePlainModel(word.toString());
        }
    }

    private void asThePlainModel(String word) {
        BackwardSearch x = Make.search("", word);
        checks.due("24: border of " + word, x.border(), PlainModel.borderOf(word));
        checks.due("25: period of " + word, x.period(), PlainModel.periodOf(word));
        for (int place = 0; place < word.length(); place++) {
            int due = PlainModel.endSkipOf(word, place);
            checks.due("22: " + word + " at " + place, x.endSkip(place), due);
            checks.due("23: " + word + " at " + place, x.endSkipByTrying(place), due);
        }
    }
}
