/** The bounds that promises 9 to 29 name, a test for each sentence. */
public final class BoundsOfAnswersTest {
    private static final String SIXTY = "a".repeat(60);
    private static final String SIXTEEN = "a".repeat(16);
    private static final int[] FAR = {Integer.MIN_VALUE, Integer.MAX_VALUE};

    private final Checks checks = new Checks("BoundsOfAnswersTest");

    public static void main(String[] args) {
        BoundsOfAnswersTest test = new BoundsOfAnswersTest();
        test.lineAndWord();
        test.theSearchAsItIs();
        test.skips();
        test.skipRefusals();
        test.whatWouldBe();
        test.checks.end();
    }

    private void lineAndWord() {
        checks.sentence("9: Returns the length of the line.", this::lineLengths);
        checks.sentence("10: Returns the length of the word.", this::wordLengths);
        checks.sentence("11: Returns a letter of the line.", this::firstAndLastOfTheLine);
        checks.sentence("11: Throws if there is no such place", this::noSuchPlaceOfTheLine);
        checks.sentence("12: Returns a letter of the word.", this::firstAndLastOfTheWord);
        checks.sentence("12: Throws if there is no such place", this::noSuchPlaceOfTheWord);
    }

    private void theSearchAsItIs() {
        checks.sentence("13: Returns the place of the search, also if it is over.",
                this::placeWhenOver);
        checks.sentence("14: Tells whether the search is over.", this::lastLookLeft);
        checks.sentence("15: Returns how many looks were made.", this::looks);
        checks.sentence("16: Returns how many letters were compared.", this::compared);
        checks.sentence("17: Returns how many places were found.", this::found);
        checks.sentence("18: 0 for the first one", this::firstAndLastFound);
        checks.sentence("18: Throws if there are not so many", this::notSoMany);
        checks.sentence("19: places from which the word could begin", this::couldBegin);
        checks.sentence("19: of those ahead of the place of the search", this::aheadOfThePlace);
    }

    private void skips() {
        checks.sentence("20: Returns the greatest place of the word that has a letter.",
                this::greatestPlace);
        checks.sentence("20: NONE if there is none.", this::noPlaceWithTheLetter);
        checks.sentence("21: Returns the letter skip.", this::letterSkipFirstAndLast);
        checks.sentence("22: Returns the end skip", this::endSkipFirstAndLast);
        checks.sentence("23: Returns the same skip", this::sameSkip);
        checks.sentence("24: Returns the border of the word, 0 if it is empty.", this::border);
        checks.sentence("25: Returns the period of the word, 0 if it is empty.", this::period);
    }

    private void skipRefusals() {
        checks.sentence("20: Throws if there is no such letter", this::noLetterForThePlace);
        checks.sentence("21: Throws if the word has no such place", this::noPlaceForTheLetterSkip);
        checks.sentence("21: Throws if there is no such letter", this::noLetterForTheSkip);
        checks.sentence("22: Throws if the word has no such place", this::noPlaceForTheEndSkip);
        checks.sentence("23: Throws if the word has no such place", this::noPlaceForTrying);
    }

    private void whatWouldBe() {
        checks.sentence("26: Returns at how many places the word stands in the line",
                this::occurrences);
        checks.sentence("26: a search of its own", this::searchOfItsOwn);
        checks.sentence("26: with both rules", this::bothRulesWhateverIsSet);
        checks.sentence("27: Returns the same number, found by trying all places.",
                this::occurrencesByTrying);
        checks.sentence("28: from the beginning to its end", this::fromBeginningToEnd);
        checks.sentence("28: with given rules", this::givenRules);
        checks.sentence("29: find different letters first", this::differentLettersFirst);
        checks.sentence("29: NONE if all are the same.", this::noDifference);
        checks.sentence("29: Throws if place is below 0", this::placeBelowZero);
        checks.sentence("29: Throws if the word does not fit into the line there",
                this::wordDoesNotFit);
        checks.sentence("29: an empty word fits at each place up to the length of the line",
                this::emptyWordFits);
        checks.sentence("29: Throws if the word is empty", this::noWordToDiffer);
    }

    private void lineLengths() {
        checks.due("new", new BackwardSearch().lineLength(), 0);
        checks.due("none", Make.search("", "ab").lineLength(), 0);
        checks.due("one", Make.search("a", "ab").lineLength(), 1);
        checks.due("most", Make.search(SIXTY, "ab").lineLength(), 60);
    }

    private void wordLengths() {
        checks.due("new", new BackwardSearch().wordLength(), 0);
        checks.due("none", Make.search("ab", "").wordLength(), 0);
        checks.due("one", Make.search("ab", "a").wordLength(), 1);
        checks.due("most", Make.search("ab", SIXTEEN).wordLength(), 16);
    }

    private void firstAndLastOfTheLine() {
        BackwardSearch x = Make.search("b" + "a".repeat(58) + "z", "c");
        checks.due("the first one", x.lineLetter(0), 1);
        checks.due("the last one", x.lineLetter(59), 25);
        checks.due("the only one", Make.search("z", "").lineLetter(0), 25);
    }

    private void noSuchPlaceOfTheLine() {
        BackwardSearch x = shortened();
        for (int place : new int[] {-1, 2, 7, 60}) {
            checks.noSuchPlace("place " + place, x, () -> x.lineLetter(place));
        }
        for (int place : FAR) {
            checks.noSuchPlace("place " + place, x, () -> x.lineLetter(place));
        }
        BackwardSearch full = Make.search(SIXTY, "a");
        checks.noSuchPlace("behind a full line", full, () -> full.lineLetter(60));
        BackwardSearch empty = Make.search("", "abc");
        checks.noSuchPlace("an empty line", empty, () -> empty.lineLetter(0));
    }

    /** The longer line and word that were there before must not show through. */
    private static BackwardSearch shortened() {
        BackwardSearch x = Make.search("abcdefgh", "efgh");
        Make.append(x, "ab");
        x.takeLine();
        Make.append(x, "cde");
        x.takeWord();
        return x;
    }

    private void firstAndLastOfTheWord() {
        BackwardSearch x = Make.search("c", "b" + "a".repeat(14) + "z");
        checks.due("the first one", x.wordLetter(0), 1);
        checks.due("the last one", x.wordLetter(15), 25);
        checks.due("the only one", Make.search("", "z").wordLetter(0), 25);
    }

    private void noSuchPlaceOfTheWord() {
        BackwardSearch x = shortened();
        for (int place : new int[] {-1, 3, 4, 16}) {
            checks.noSuchPlace("place " + place, x, () -> x.wordLetter(place));
        }
        for (int place : FAR) {
            checks.noSuchPlace("place " + place, x, () -> x.wordLetter(place));
        }
        BackwardSearch full = Make.search("a", SIXTEEN);
        checks.noSuchPlace("behind a full word", full, () -> full.wordLetter(16));
        BackwardSearch empty = Make.search("abc", "");
        checks.noSuchPlace("an empty word", empty, () -> empty.wordLetter(0));
    }

    private void placeWhenOver() {
        checks.due("nothing", new BackwardSearch().place(), 0);
        checks.due("no word", Make.search("abc", "").place(), 0);
        checks.due("a longer word", Make.search("ab", "abc").place(), 0);
        checks.due("just behind the last place", finished("abc", "xyz", false).place(), 1);
        checks.due("as far as it skipped", finished("abc", "xyz", true).place(), 3);
        checks.due("the length of the line", finished(SIXTY, "a", true).place(), 60);
        // A look at 44, the last place, skips by 16.
        String last = "a".repeat(59) + "b";
        checks.due("the farthest", finished(last, SIXTEEN, true).place(), 60);
    }

    private static BackwardSearch finished(String line, String word, boolean rules) {
        BackwardSearch x = Make.search(line, word);
        x.setRules(rules, rules);
        x.finish();
        return x;
    }

    private void lastLookLeft() {
        BackwardSearch x = Make.search("aaa", "aa");
        checks.due("two left", x.isOver(), false);
        x.look();
        checks.due("one left", x.isOver(), false);
        x.look();
        checks.due("none left", x.isOver(), true);
        x.rewind();
        checks.due("from the beginning", x.isOver(), false);
        checks.due("new", new BackwardSearch().isOver(), true);
    }

    private void looks() {
        checks.due("new", new BackwardSearch().lookCount(), 0);
        checks.due("most", finished(SIXTY, "b", false).lookCount(), 60);
        BackwardSearch x = finished(SIXTY, "a", true);
        x.rewind();
        checks.due("anew", x.lookCount(), 0);
        x.look();
        checks.due("one", x.lookCount(), 1);
    }

    private void compared() {
        checks.due("new", new BackwardSearch().comparedCount(), 0);
        BackwardSearch most = finished(SIXTY, "b" + "a".repeat(15), false);
        checks.due("most", most.comparedCount(), 720);
        most.rewind();
        checks.due("anew", most.comparedCount(), 0);
        most.look();
        checks.due("one look", most.comparedCount(), 16);
    }

    private void found() {
        checks.due("new", new BackwardSearch().foundCount(), 0);
        checks.due("none", finished(SIXTY, "b", true).foundCount(), 0);
        BackwardSearch most = finished(SIXTY, "a", true);
        checks.due("most", most.foundCount(), 60);
        most.rewind();
        checks.due("anew", most.foundCount(), 0);
        checks.due("the first place alone", finished("baaa", "b", true).foundCount(), 1);
        checks.due("the last place alone", finished("aaab", "b", true).foundCount(), 1);
    }

    private void firstAndLastFound() {
        BackwardSearch x = finished(SIXTY, "a", true);
        checks.due("the first one", x.foundPlace(0), 0);
        checks.due("the last one", x.foundPlace(59), 59);
        checks.due("the only one", finished("aaab", "ab", true).foundPlace(0), 2);
    }

    private void notSoMany() {
        BackwardSearch x = Make.search("aabaabaa", "aa");
        checks.noSuchPlace("none yet", x, () -> x.foundPlace(0));
        x.look();
        checks.noSuchPlace("one yet", x, () -> x.foundPlace(1));
        x.finish();
        for (int number : new int[] {-1, 3, 60}) {
            checks.noSuchPlace("number " + number, x, () -> x.foundPlace(number));
        }
        for (int number : FAR) {
            checks.noSuchPlace("number " + number, x, () -> x.foundPlace(number));
        }
        x.rewind();
        checks.noSuchPlace("forgotten", x, () -> x.foundPlace(0));
        BackwardSearch full = finished(SIXTY, "a", true);
        checks.noSuchPlace("behind the most", full, () -> full.foundPlace(60));
    }

    /** The search skips past the line, but behind its end no word could begin. */
    private void couldBegin() {
        checks.due("of the places 0, 1", finished("abcd", "xyz", true).skippedPlaces(), 1);
        checks.due("of the place 0", finished("abc", "xyz", true).skippedPlaces(), 0);
        checks.due("of the places 0 to 44", finished("b".repeat(60), SIXTEEN, true).skippedPlaces(),
                42);
        checks.due("a longer word", Make.search("ab", "abc").skippedPlaces(), 0);
        checks.due("an empty word", Make.search("abc", "").skippedPlaces(), 0);
        checks.due("new", new BackwardSearch().skippedPlaces(), 0);
    }

    private void aheadOfThePlace() {
        BackwardSearch x = Make.search("xxxxxxxxx", "abc");
        checks.due("at the beginning", x.skippedPlaces(), 0);
        x.look();
        checks.due("ahead of 3", x.skippedPlaces(), 2);
        x.look();
        checks.due("ahead of 6", x.skippedPlaces(), 4);
        x.rewind();
        checks.due("anew", x.skippedPlaces(), 0);
        checks.due("a look at each", finished("xxxxxxxxx", "abc", false).skippedPlaces(), 0);
    }

    private void greatestPlace() {
        checks.due("the last one", Make.search("", SIXTEEN).lastPlaceOf(0), 15);
        checks.due("the first one", Make.search("", "b" + "a".repeat(15)).lastPlaceOf(1), 0);
        checks.due("a z", Make.search("", "azza").lastPlaceOf(25), 2);
    }

    private void noPlaceWithTheLetter() {
        checks.due("only in the line", Make.search("b", SIXTEEN).lastPlaceOf(1), -1);
        checks.due("no word", Make.search("aaa", "").lastPlaceOf(0), -1);
        checks.due("only in the word before", shortened().lastPlaceOf(7), -1);
    }

    private void letterSkipFirstAndLast() {
        BackwardSearch x = Make.search("", "b" + "a".repeat(15));
        checks.due("the first place and letter", x.letterSkip(0, 0), -15);
        checks.due("the first place, the last letter", x.letterSkip(0, 25), 1);
        checks.due("the last place, the first letter", x.letterSkip(15, 0), 0);
        checks.due("the last place, the greatest skip", x.letterSkip(15, 25), 16);
        checks.due("the last place, a letter far ahead", x.letterSkip(15, 1), 15);
    }

    private void endSkipFirstAndLast() {
        BackwardSearch x = Make.search("", SIXTEEN);
        checks.due("the first place, the period", x.endSkip(0), 1);
        checks.due("the last place, the greatest skip", x.endSkip(15), 16);
        checks.due("a word of one", Make.search("", "a").endSkip(0), 1);
        checks.due("no period but the whole", Make.search("", "abcd").endSkip(0), 4);
        checks.due("the last place, the least skip", Make.search("", "abcd").endSkip(3), 1);
    }

    private void sameSkip() {
        for (String word : new String[] {"a", "ab", "abcd", SIXTEEN, "a".repeat(15) + "b",
                "b" + "a".repeat(15), "abaababaabaababa"}) {
            BackwardSearch x = Make.search("", word);
            for (int place = 0; place < word.length(); place++) {
                int due = PlainModel.endSkipOf(word, place);
                checks.due("endSkip of " + word + " at " + place, x.endSkip(place), due);
                checks.due("by trying, " + word + " at " + place, x.endSkipByTrying(place), due);
            }
        }
    }

    private void border() {
        checks.due("new", new BackwardSearch().border(), 0);
        BackwardSearch x = Make.search("aaa", SIXTEEN);
        checks.due("the greatest", x.border(), 15);
        x.takeWord();
        checks.due("no word any more", x.border(), 0);
        checks.due("a word of one", Make.search("", "a").border(), 0);
    }

    private void period() {
        checks.due("new", new BackwardSearch().period(), 0);
        BackwardSearch x = Make.search("aaa", "a".repeat(15) + "b");
        checks.due("the greatest", x.period(), 16);
        x.takeWord();
        checks.due("no word any more", x.period(), 0);
        checks.due("a word of one", Make.search("", "a").period(), 1);
    }

    private void noLetterForThePlace() {
        BackwardSearch x = Make.search("abc", "abc");
        BackwardSearch empty = new BackwardSearch();
        for (int letter : new int[] {-1, 26, 'a', FAR[0], FAR[1]}) {
            checks.badArgument("letter " + letter, x, () -> x.lastPlaceOf(letter));
            checks.badArgument("no word, letter " + letter, empty, () -> empty.lastPlaceOf(letter));
        }
    }

    private void noPlaceForTheLetterSkip() {
        BackwardSearch x = shortened();
        for (int place : new int[] {-1, 3, 4, 16, FAR[0], FAR[1]}) {
            checks.noSuchPlace("place " + place, x, () -> x.letterSkip(place, 0));
        }
        BackwardSearch empty = Make.search("abc", "");
        checks.noSuchPlace("an empty word", empty, () -> empty.letterSkip(0, 0));
        BackwardSearch full = Make.search("", SIXTEEN);
        checks.noSuchPlace("behind a full word", full, () -> full.letterSkip(16, 0));
    }

    private void noLetterForTheSkip() {
        BackwardSearch x = Make.search("abc", "abc");
        for (int letter : new int[] {-1, 26, 'a', FAR[0], FAR[1]}) {
            checks.badArgument("letter " + letter, x, () -> x.letterSkip(0, letter));
            checks.badArgument("letter " + letter + " at the end", x, () -> x.letterSkip(2, letter));
        }
    }

    private void noPlaceForTheEndSkip() {
        BackwardSearch x = shortened();
        for (int place : new int[] {-1, 3, 4, 16, FAR[0], FAR[1]}) {
            checks.noSuchPlace("place " + place, x, () -> x.endSkip(place));
        }
        BackwardSearch empty = Make.search("abc", "");
        checks.noSuchPlace("an empty word", empty, () -> empty.endSkip(0));
        BackwardSearch full = Make.search("", SIXTEEN);
        checks.noSuchPlace("behind a full word", full, () -> full.endSkip(16));
    }

    private void noPlaceForTrying() {
        BackwardSearch x = shortened();
        for (int place : new int[] {-1, 3, 4, 16, FAR[0], FAR[1]}) {
            checks.noSuchPlace("place " + place, x, () -> x.endSkipByTrying(place));
        }
        BackwardSearch empty = Make.search("abc", "");
        checks.noSuchPlace("an empty word", empty, () -> empty.endSkipByTrying(0));
        BackwardSearch full = Make.search("", SIXTEEN);
        checks.noSuchPlace("behind a full word", full, () -> full.endSkipByTrying(16));
    }

    private void occurrences() {
        checks.due("new", new BackwardSearch().occurrences(), 0);
        checks.due("no line", Make.search("", "a").occurrences(), 0);
        checks.due("a longer word", Make.search("aa", "aaa").occurrences(), 0);
        checks.due("the whole line", Make.search("aaa", "aaa").occurrences(), 1);
        checks.due("each place", Make.search(SIXTY, "a").occurrences(), 60);
        checks.due("each place for a full word", Make.search(SIXTY, SIXTEEN).occurrences(), 45);
        checks.due("the last place", Make.search("aaab", "ab").occurrences(), 1);
        checks.due("the first place", Make.search("baaa", "ba").occurrences(), 1);
    }

    private void searchOfItsOwn() {
        for (int looks = 0; looks <= 3; looks++) {
            BackwardSearch x = Make.search("aaaa", "aa");
            for (int look = 0; look < looks; look++) {
                x.look();
            }
            String before = Picture.of(x);
            checks.due("behind " + looks + " looks", x.occurrences(), 3);
            checks.due("the other search behind " + looks, Picture.of(x), before);
        }
    }

    private void bothRulesWhateverIsSet() {
        for (int rules = 0; rules < 4; rules++) {
            BackwardSearch x = Make.search("aaaaxaaaa", "aaa");
            x.setRules(rules % 2 == 1, rules > 1);
            checks.due("with the rules " + rules, x.occurrences(), 4);
            int on = rules % 2 + rules / 2;
            checks.due("the rules are left", x.setRules(true, true), on);
        }
    }

    private void occurrencesByTrying() {
        checks.due("new", new BackwardSearch().occurrencesByTrying(), 0);
        checks.due("no line", Make.search("", "a").occurrencesByTrying(), 0);
        checks.due("a longer word", Make.search("aa", "aaa").occurrencesByTrying(), 0);
        checks.due("the whole line", Make.search("aaa", "aaa").occurrencesByTrying(), 1);
        checks.due("each place", Make.search(SIXTY, "a").occurrencesByTrying(), 60);
        checks.due("for a full word", Make.search(SIXTY, SIXTEEN).occurrencesByTrying(), 45);
        checks.due("the last place", Make.search("aaab", "ab").occurrencesByTrying(), 1);
        checks.due("the first place", Make.search("baaa", "ba").occurrencesByTrying(), 1);
        BackwardSearch over = finished("aaaa", "aa", false);
        checks.due("when over", over.occurrencesByTrying(), 3);
    }

    private void fromBeginningToEnd() {
        checks.due("new", new BackwardSearch().comparedWith(true, true), 0);
        checks.due("a longer word", Make.search("aa", "aaa").comparedWith(true, true), 0);
        checks.due("the whole line", Make.search("aaa", "aaa").comparedWith(true, true), 3);
        checks.due("most", Make.search(SIXTY, SIXTEEN).comparedWith(true, true), 720);
        for (int looks = 0; looks <= 3; looks++) {
            BackwardSearch x = Make.search("aaaa", "aa");
            for (int look = 0; look < looks; look++) {
                x.look();
            }
            String before = Picture.of(x);
            checks.due("behind " + looks + " looks", x.comparedWith(true, true), 6);
            checks.due("the other search behind " + looks, Picture.of(x), before);
        }
        // With the rules that it had, a search that goes on would compare as many in the end.
        checks.due("when over, without rules before",
                finished("aaaaaa", "baa", false).comparedWith(true, true), 6);
        checks.due("when over, with both rules before",
                finished("aaaaaa", "baa", true).comparedWith(false, false), 12);
    }

    private void givenRules() {
        for (int set = 0; set < 4; set++) {
            BackwardSearch x = Make.search("xxxxxx", "abc");
            x.setRules(set % 2 == 1, set > 1);
            checks.due("none", x.comparedWith(false, false), 4);
            checks.due("the letter rule", x.comparedWith(true, false), 2);
            checks.due("the end rule", x.comparedWith(false, true), 4);
            checks.due("both", x.comparedWith(true, true), 2);
            checks.due("the rules are left", x.setRules(true, true), set % 2 + set / 2);
        }
    }

    private void differentLettersFirst() {
        BackwardSearch x = Make.search("a".repeat(15) + "b" + "a".repeat(44), SIXTEEN);
        checks.due("the last place of the word", x.differenceAt(0), 15);
        checks.due("the first place of the word", x.differenceAt(15), 0);
        checks.due("a place between", x.differenceAt(8), 7);
        checks.due("of many, the last one", Make.search("bbb", "aaa").differenceAt(0), 2);
    }

    private void noDifference() {
        checks.due("the first place", Make.search("ab", "a").differenceAt(0), -1);
        checks.due("the last place", Make.search("ba", "a").differenceAt(1), -1);
        checks.due("a full line", Make.search(SIXTY, SIXTEEN).differenceAt(44), -1);
    }

    private void placeBelowZero() {
        for (BackwardSearch x : new BackwardSearch[] {Make.search("abcab", "abc"),
                Make.search("ab", "abc"), Make.search("abc", ""), new BackwardSearch()}) {
            checks.noSuchPlace("place -1", x, () -> x.differenceAt(-1));
            checks.noSuchPlace("the lowest", x, () -> x.differenceAt(FAR[0]));
        }
    }

    private void wordDoesNotFit() {
        BackwardSearch x = Make.search("abcab", "abc");
        checks.due("the last place that fits", x.differenceAt(2), 2);
        for (int place : new int[] {3, 4, 5, 6, 60, FAR[1], FAR[1] - 1, FAR[1] - 2, FAR[1] - 3}) {
            checks.noSuchPlace("place " + place, x, () -> x.differenceAt(place));
        }
        BackwardSearch longer = Make.search("ab", "abc");
        checks.noSuchPlace("a longer word", longer, () -> longer.differenceAt(0));
        BackwardSearch noLine = Make.search("", "a");
        checks.noSuchPlace("no line", noLine, () -> noLine.differenceAt(0));
        BackwardSearch full = Make.search(SIXTY, SIXTEEN);
        checks.noSuchPlace("in a full line", full, () -> full.differenceAt(45));
    }

    private void emptyWordFits() {
        for (String line : new String[] {"", "a", "abcab", SIXTY}) {
            int length = line.length();
            BackwardSearch x = Make.search(line, "");
            checks.badState("place 0 of " + line, x, () -> x.differenceAt(0));
            checks.badState("the length of " + line, x, () -> x.differenceAt(length));
            BackwardSearch y = Make.search(line, "");
            checks.noSuchPlace("1 more than " + line, y, () -> y.differenceAt(length + 1));
            checks.noSuchPlace("far behind " + line, y, () -> y.differenceAt(FAR[1]));
        }
    }

    private void noWordToDiffer() {
        BackwardSearch x = Make.search("abcab", "abc");
        x.takeWord();
        for (int place = 0; place <= 5; place++) {
            int there = place;
            checks.badState("place " + place, x, () -> x.differenceAt(there));
        }
    }
}
