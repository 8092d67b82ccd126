/** Promises 13 to 19: what the search tells of itself; for the bounds see BoundsOfAnswersTest. */
public final class SearchAsItIsTest {
    private final Checks checks = new Checks("SearchAsItIsTest");

    public static void main(String[] args) {
        SearchAsItIsTest test = new SearchAsItIsTest();
        test.stepByStep();
        test.over();
        test.foundPlaces();
        test.skippedPlaces();
        test.checks.end();
    }

    /** The word "ana" in "bananarana": r is not in the word, so a look there skips far. */
    private void stepByStep() {
        BackwardSearch x = Make.search("bananarana", "ana");
        same(x, 0, 0, 0, 0);
        x.look();
        same(x, 1, 1, 1, 0);
        x.look();
        same(x, 3, 2, 4, 1);
        x.look();
        same(x, 5, 3, 7, 2);
        x.look();
        same(x, 7, 4, 9, 2);
        checks.due("14: not over at the last place", x.isOver(), false);
        x.look();
        same(x, 9, 5, 12, 3);
        checks.due("14: over", x.isOver(), true);
    }

    private void same(BackwardSearch x, int place, int looks, int compared, int found) {
        checks.due("13: place", x.place(), place);
        checks.due("15: lookCount", x.lookCount(), looks);
        checks.due("16: comparedCount", x.comparedCount(), compared);
        checks.due("17: foundCount", x.foundCount(), found);
    }

    private void over() {
        checks.due("14: nothing at all", new BackwardSearch().isOver(), true);
        checks.due("14: no word", Make.search("abc", "").isOver(), true);
        checks.due("14: no line", Make.search("", "a").isOver(), true);
        checks.due("14: the line is shorter", Make.search("ab", "abc").isOver(), true);
        checks.due("14: as long as the line", Make.search("abc", "xyz").isOver(), false);
        BackwardSearch x = Make.search("abcd", "xyz");
        x.setRules(false, false);
        x.look();
        checks.due("14: the last place is left", x.isOver(), false);
        x.look();
        checks.due("14: no place is left", x.isOver(), true);
        checks.due("13: the place when over", x.place(), 2);
        BackwardSearch far = Make.search("xxxxx", "abc");
        far.finish();
        checks.due("13: behind the last place", far.place(), 3);
    }

    private void foundPlaces() {
        BackwardSearch x = Make.search("aabaabaa", "aa");
        x.finish();
        checks.due("17: three", x.foundCount(), 3);
        checks.due("18: the first one", x.foundPlace(0), 0);
        checks.due("18: the second one", x.foundPlace(1), 3);
        checks.due("18: the last one", x.foundPlace(2), 6);
        BackwardSearch most = Make.search("b".repeat(60), "b");
        most.finish();
        checks.due("17: sixty", most.foundCount(), 60);
        checks.due("18: the sixtieth", most.foundPlace(59), 59);
    }

    private void skippedPlaces() {
        BackwardSearch x = Make.search("xxxxxxxx", "abc");
        checks.due("19: at first", x.skippedPlaces(), 0);
        x.look();
        checks.due("19: the places 1 and 2", x.skippedPlaces(), 2);
        x.look();
        checks.due("19: of 0 to 5, all but 0 and 3", x.skippedPlaces(), 4);
        BackwardSearch ending = Make.search("xxxxxxx", "abc");
        ending.finish();
        checks.due("19: the place of the search", ending.place(), 6);
        checks.due("19: the word can't begin at 5", ending.skippedPlaces(), 3);
        BackwardSearch all = Make.search("xxxxxx", "abc");
        all.setRules(false, false);
        all.finish();
        checks.due("19: a look at each place", all.skippedPlaces(), 0);
        checks.due("19: no word", Make.search("abc", "").skippedPlaces(), 0);
        checks.due("19: a longer word", Make.search("a", "abcdef").skippedPlaces(), 0);
    }
}
