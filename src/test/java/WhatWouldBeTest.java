/** Promises 26 to 29: what a search or a look would find; see also BoundsOfAnswersTest. */
public final class WhatWouldBeTest {
    private final Checks checks = new Checks("WhatWouldBeTest");

    public static void main(String[] args) {
        WhatWouldBeTest test = new WhatWouldBeTest();
        test.occurrences();
        test.occurrencesInManyLines();
        test.comparedWith();
        test.leavesTheSearchAlone();
        test.differenceAt();
        test.checks.end();
    }

    private void occurrences() {
        standing("bananarana", "ana", 3);
        standing("aaaa", "aa", 3);
        standing("abc", "abc", 1);
        standing("abc", "abd", 0);
        standing("abc", "", 0);
        standing("", "", 0);
        standing("", "a", 0);
        standing("ab", "abc", 0);
        standing("aab", "b", 1);
        standing("baa", "b", 1);
        standing("a".repeat(60), "a", 60);
        standing("ab".repeat(30), "ababababababab", 24);
    }

    private void standing(String line, String word, int due) {
        BackwardSearch x = Make.search(line, word);
        checks.due("26: " + word + " in " + line, x.occurrences(), due);
        checks.due("27: " + word + " in " + line, x.occurrencesByTrying(), due);
    }

    /** All lines of nine letters a and b, with all words of up to five. */
    private void occurrencesInManyLines() {
        for (int number = 0; number < 1 << 9; number++) {
            String line = letters(number, 9);
            for (int length = 1; length <= 5; length++) {
                for (int other = 0; other < 1 << length; other++) {
                    String word = letters(other, length);
                    standing(line, word, PlainModel.standing(line, word));
                }
            }
        }
    }

    private static String letters(int number, int length) {
        StringBuilder letters = new StringBuilder();
        for (int i = 0; i < length; i++) {
            letters.append((number >> i & 1) == 0 ? 'a' : 'b');
        }
        return letters.toString();
    }

    private void comparedWith() {
        compares("xxxxxx", "abc", 2, 2, 4, 4);
        compares("aaaaaa", "baa", 6, 12, 6, 12);
        compares("aaaa", "aa", 6, 6, 6, 6);
        compares("abcd", "", 0, 0, 0, 0);
        compares("ab", "abc", 0, 0, 0, 0);
        compares("", "", 0, 0, 0, 0);
    }

    private void compares(String line, String word, int both, int letter, int end, int none) {
        BackwardSearch x = Make.search(line, word);
        for (int rules = 0; rules < 4; rules++) {
            x.setRules(rules % 2 == 0, rules < 2);
            String what = "28: " + word + " in " + line + " with the rules " + rules;
            checks.due(what + ", both", x.comparedWith(true, true), both);
            checks.due(what + ", letter", x.comparedWith(true, false), letter);
            checks.due(what + ", end", x.comparedWith(false, true), end);
            checks.due(what + ", none", x.comparedWith(false, false), none);
        }
    }

    private void leavesTheSearchAlone() {
        BackwardSearch x = Make.search("bananarana", "ana");
        x.setRules(false, true);
        x.look();
        x.look();
        String before = Picture.of(x);
        checks.due("28: from the beginning", x.comparedWith(true, true), 12);
        checks.due("26: from the beginning", x.occurrences(), 3);
        checks.due("27: from the beginning", x.occurrencesByTrying(), 3);
        checks.due("29: wherever the search is", x.differenceAt(0), 2);
        checks.due("26 to 29 are no changes", Picture.of(x), before);
        checks.due("26 and 28 leave the rules", x.setRules(true, true), 1);
        BackwardSearch over = Make.search("aaaaaa", "baa");
        over.setRules(false, false);
        over.finish();
        checks.due("28: from the beginning, when over", over.comparedWith(true, true), 6);
        checks.due("28: and without the end rule", over.comparedWith(true, false), 12);
    }

    private void differenceAt() {
        BackwardSearch x = Make.search("abcabxxbc", "abc");
        checks.due("29: all the same", x.differenceAt(0), BackwardSearch.NONE);
        checks.due("29: the last one first", x.differenceAt(1), 2);
        checks.due("29: only the last one", x.differenceAt(3), 2);
        checks.due("29: the last place, only the first one", x.differenceAt(6), 0);
        BackwardSearch middle = Make.search("axcaxx", "abc");
        checks.due("29: the middle one", middle.differenceAt(0), 1);
        checks.due("29: the greater one of two", middle.differenceAt(3), 2);
    }
}
