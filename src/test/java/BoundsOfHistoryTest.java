/** The bounds that promises 34 to 37 name, a test for each sentence. */
public final class BoundsOfHistoryTest {
    private final Checks checks = new Checks("BoundsOfHistoryTest");

    public static void main(String[] args) {
        BoundsOfHistoryTest test = new BoundsOfHistoryTest();
        test.undoing();
        test.notOfTheState();
        test.saving();
        test.loading();
        test.checks.end();
    }

    private void undoing() {
        checks.sentence("34: Undoes the latest change.", this::latestChange);
        checks.sentence("34: Every method that is described as a change", this::everyChange);
        checks.sentence("34: and throws no exception first records the state", this::refusedChanges);
        checks.sentence("34: even if it alters nothing", this::alteringNothing);
        checks.sentence("34: At most 6 states are kept", this::atMostSix);
        checks.sentence("34: when another one is recorded, the oldest one is dropped",
                this::oldestIsDropped);
        checks.sentence("34: Returns how many recorded states are left.", this::statesLeft);
        checks.sentence("34: Throws if no state is recorded", this::nothingToUndo);
        checks.sentence("35: Returns how many changes can be undone.", this::undoCount);
    }

    private void notOfTheState() {
        checks.sentence("34: The text", this::textIsNoState);
        checks.sentence("34: the slots", this::slotsAreNoState);
        checks.sentence("34: and the history itself are not part of a state",
                this::historyIsNoState);
        checks.sentence("34: are not part of a state (so that the rules are)", this::rulesAreState);
    }

    private void saving() {
        checks.sentence("36: Saves the state in a slot", this::bothSlots);
        checks.sentence("36: replaces what was saved there", this::replaced);
        checks.sentence("36: Returns the length of the line.", this::lengthSaved);
        checks.sentence("36: Throws if there is no such slot", this::noSlotToSave);
    }

    private void loading() {
        checks.sentence("37: Loads the state that was saved in a slot", this::loaded);
        checks.sentence("37: the slot keeps it", this::slotKeeps);
        checks.sentence("37: This is a change.", this::loadingIsAChange);
        checks.sentence("37: Returns the length of the line afterwards.", this::lengthLoaded);
        checks.sentence("37: Throws if there is no such slot", this::noSlotToLoad);
        checks.sentence("37: Throws if nothing was saved in it", this::nothingSaved);
    }

    private void latestChange() {
        BackwardSearch x = Make.search("a".repeat(60), "a");
        x.finish();
        String full = Picture.ofState(x);
        x.rewind();
        x.undo();
        checks.due("sixty found places are back", Picture.ofState(x), full);
        BackwardSearch one = new BackwardSearch();
        one.rewind();
        one.undo();
        checks.due("the only change", Picture.of(one), Picture.of(new BackwardSearch()));
    }

    private void everyChange() {
        BackwardSearch x = Make.search("abcab", "ab");
        checks.recorded("takeLine", x, x::takeLine);
        checks.recorded("takeWord", x, x::takeWord);
        checks.recorded("setRules", x, () -> x.setRules(false, true));
        checks.recorded("look", x, x::look);
        checks.recorded("finish", x, x::finish);
        checks.recorded("rewind", x, x::rewind);
        checks.recorded("setLetter", x, () -> x.setLetter(0, 25));
        x.saveState(0);
        checks.recorded("loadState", x, () -> x.loadState(0));
        int count = x.undoCount();
        x.appendText('a');
        x.clearText();
        x.saveState(1);
        x.occurrences();
        x.comparedWith(false, false);
        Picture.of(x);
        checks.due("no other call is a change", x.undoCount(), count);
    }

    private void refusedChanges() {
        BackwardSearch x = Make.search("ab", "ab");
        x.finish();
        Make.append(x, "!");
        checks.badState("takeLine", x, x::takeLine);
        checks.badState("takeWord", x, x::takeWord);
        checks.badState("look", x, x::look);
        checks.noSuchPlace("setLetter, the place", x, () -> x.setLetter(2, 0));
        checks.badArgument("setLetter, the letter", x, () -> x.setLetter(1, 26));
        checks.noSuchPlace("loadState, the slot", x, () -> x.loadState(2));
        checks.badState("loadState, nothing saved", x, () -> x.loadState(1));
        checks.due("three changes", x.undoCount(), 3);
        x.undo();
        checks.due("the latest one is finish", x.lookCount(), 0);
    }

    private void alteringNothing() {
        BackwardSearch x = new BackwardSearch();
        x.saveState(0);
        checks.recorded("takeLine", x, x::takeLine);
        checks.recorded("takeWord", x, x::takeWord);
        checks.recorded("setRules", x, () -> x.setRules(true, true));
        checks.recorded("finish", x, x::finish);
        checks.recorded("rewind", x, x::rewind);
        checks.recorded("loadState", x, () -> x.loadState(0));
        BackwardSearch line = Make.search("q", "");
        checks.recorded("setLetter", line, () -> line.setLetter(0, 16));
    }

    private void atMostSix() {
        for (int changes = 0; changes <= 20; changes++) {
            BackwardSearch x = new BackwardSearch();
            for (int change = 0; change < changes; change++) {
                x.rewind();
            }
            int due = Math.min(changes, 6);
            checks.due("kept of " + changes, x.undoCount(), due);
            for (int left = due - 1; left >= 0; left--) {
                checks.due("left of " + changes, x.undo(), left);
            }
            checks.badState("no more of " + changes, x, x::undo);
        }
    }

    /** From each number of changes on, the six before the last look come back, in their order. */
    private void oldestIsDropped() {
        for (int changes = 1; changes <= 20; changes++) {
            BackwardSearch x = Make.search("a".repeat(30), "a");
            for (int change = 0; change < changes; change++) {
                x.look();
            }
            int looks = changes;
            while (looks > 0 && x.undoCount() > 0) {
                x.undo();
                looks--;
                checks.due("back from " + changes, x.lookCount(), looks);
            }
            checks.due("as far as from " + changes, looks, Math.max(changes - 6, 0));
        }
        BackwardSearch pair = Make.search("ab", "ab");
        for (int change = 0; change < 4; change++) {
            pair.rewind();
        }
        goBack(pair, 6);
        checks.due("six changes: the line is gone", pair.lineLength(), 0);
        BackwardSearch more = Make.search("ab", "ab");
        for (int change = 0; change < 5; change++) {
            more.rewind();
        }
        goBack(more, 6);
        checks.due("seven changes: the line stays", more.lineLength(), 2);
        checks.due("seven changes: the word is gone", more.wordLength(), 0);
    }

    private static void goBack(BackwardSearch x, int steps) {
        for (int step = 0; step < steps; step++) {
            x.undo();
        }
    }

    private void statesLeft() {
        BackwardSearch x = Make.search("abab", "ab");
        checks.due("one left", x.undo(), 1);
        checks.due("none left", x.undo(), 0);
        for (int change = 0; change < 9; change++) {
            x.rewind();
        }
        checks.due("five of six left", x.undo(), 5);
        x.rewind();
        checks.due("five again, behind one more", x.undo(), 5);
    }

    private void nothingToUndo() {
        BackwardSearch x = new BackwardSearch();
        checks.badState("nothing yet", x, x::undo);
        x.rewind();
        x.undo();
        checks.badState("undone already", x, x::undo);
        x.saveState(0);
        x.appendText('a');
        checks.badState("only calls that are no changes", x, x::undo);
    }

    private void undoCount() {
        BackwardSearch x = new BackwardSearch();
        checks.due("none", x.undoCount(), 0);
        for (int change = 1; change <= 9; change++) {
            x.rewind();
            checks.due("behind " + change, x.undoCount(), Math.min(change, 6));
        }
        for (int left = 5; left >= 0; left--) {
            x.undo();
            checks.due("undone", x.undoCount(), left);
        }
        x.rewind();
        checks.due("one again", x.undoCount(), 1);
    }

    private void textIsNoState() {
        BackwardSearch x = Make.search("abc", "ab");
        x.saveState(0);
        Make.append(x, "pq");
        x.undo();
        checks.due("undo leaves the text", x.textLength(), 2);
        x.loadState(0);
        checks.due("loadState leaves the text", x.textLength(), 2);
        x.takeWord();
        checks.due("its letters are left, too", Picture.word(x), "pq");
        x.undo();
        checks.due("undo brings no text back", x.textLength(), 0);
    }

    private void slotsAreNoState() {
        BackwardSearch x = Make.search("abc", "ab");
        x.saveState(0);
        x.undo();
        x.undo();
        checks.due("undo leaves the slot", x.loadState(0), 3);
        Make.append(x, "z");
        x.takeLine();
        x.saveState(1);
        x.loadState(0);
        checks.due("loadState leaves the other slot", x.loadState(1), 1);
        x.undo();
        x.saveState(1);
        x.undo();
        checks.due("undo brings no slot back", x.loadState(1), 3);
    }

    private void historyIsNoState() {
        BackwardSearch x = Make.search("abc", "ab");
        x.saveState(0);
        x.rewind();
        x.rewind();
        x.loadState(0);
        checks.due("loadState adds to the history", x.undoCount(), 5);
        x.undo();
        x.undo();
        checks.due("undo takes from it", x.undoCount(), 3);
        x.loadState(0);
        checks.due("loadState adds again", x.undoCount(), 4);
    }

    private void rulesAreState() {
        BackwardSearch x = Make.search("aaaaaa", "baa");
        x.setRules(true, false);
        x.saveState(1);
        x.setRules(false, true);
        x.undo();
        checks.due("undo: the letter rule alone", x.look(), 1);
        x.setRules(false, true);
        x.loadState(1);
        checks.due("loadState: the letter rule alone", x.look(), 1);
        x.undo();
        x.undo();
        checks.due("undo: the end rule alone", x.look(), 3);
    }

    private void bothSlots() {
        BackwardSearch x = Make.search("a".repeat(60), "a");
        x.finish();
        x.saveState(0);
        x.rewind();
        x.saveState(1);
        x.loadState(0);
        checks.due("the first one", x.foundPlace(59), 59);
        x.loadState(1);
        checks.due("the last one", x.foundCount(), 0);
    }

    private void replaced() {
        BackwardSearch x = Make.search("abcd", "a");
        for (int slot = 0; slot < 2; slot++) {
            x.saveState(slot);
            Make.append(x, "xy".repeat(slot + 1));
            x.takeLine();
            x.saveState(slot);
            x.takeLine();
            checks.due("the later one in " + slot, x.loadState(slot), 2 * slot + 2);
        }
        checks.due("the other slot is left", x.loadState(0), 2);
        checks.due("its line", Picture.line(x), "xy");
    }

    private void lengthSaved() {
        BackwardSearch x = new BackwardSearch();
        checks.due("none", x.saveState(0), 0);
        Make.append(x, "a".repeat(60));
        x.takeLine();
        checks.due("most", x.saveState(0), 60);
        checks.due("most, in the other slot", x.saveState(1), 60);
    }

    private void noSlotToSave() {
        BackwardSearch x = Make.search("abab", "ab");
        x.look();
        for (int slot : new int[] {-1, 2, Integer.MIN_VALUE, Integer.MAX_VALUE}) {
            checks.noSuchPlace("slot " + slot, x, () -> x.saveState(slot));
        }
        checks.badState("nothing was saved in 0", x, () -> x.loadState(0));
        checks.badState("nothing was saved in 1", x, () -> x.loadState(1));
    }

    private void loaded() {
        BackwardSearch x = Make.search("bananarana", "ana");
        x.look();
        x.look();
        String saved = Picture.ofState(x);
        x.saveState(1);
        x.takeLine();
        x.takeWord();
        x.loadState(1);
        checks.due("all is back", Picture.ofState(x), saved);
        BackwardSearch empty = new BackwardSearch();
        String first = Picture.ofState(empty);
        empty.saveState(0);
        Make.append(empty, "abc");
        empty.takeLine();
        empty.loadState(0);
        checks.due("an empty state is back", Picture.ofState(empty), first);
    }

    private void slotKeeps() {
        BackwardSearch x = Make.search("abc", "c");
        x.saveState(0);
        String saved = Picture.ofState(x);
        x.loadState(0);
        x.setLetter(0, 25);
        x.finish();
        x.loadState(0);
        checks.due("behind a letter and looks", Picture.ofState(x), saved);
        x.undo();
        x.undo();
        x.loadState(0);
        checks.due("behind undo", Picture.ofState(x), saved);
    }

    private void loadingIsAChange() {
        BackwardSearch x = Make.search("abcab", "ab");
        x.look();
        x.saveState(1);
        checks.recorded("of the same state", x, () -> x.loadState(1));
        x.setLetter(0, 25);
        x.takeWord();
        checks.recorded("of another state", x, () -> x.loadState(1));
        for (int change = 0; change < 8; change++) {
            x.loadState(1);
        }
        checks.due("of which six are kept", x.undoCount(), 6);
    }

    private void lengthLoaded() {
        BackwardSearch x = new BackwardSearch();
        x.saveState(1);
        Make.append(x, "a".repeat(60));
        x.takeLine();
        x.saveState(0);
        checks.due("none", x.loadState(1), 0);
        checks.due("most", x.loadState(0), 60);
        checks.due("most again", x.loadState(0), 60);
    }

    private void noSlotToLoad() {
        BackwardSearch x = Make.search("abab", "ab");
        x.saveState(0);
        x.saveState(1);
        for (int slot : new int[] {-1, 2, Integer.MIN_VALUE, Integer.MAX_VALUE}) {
            checks.noSuchPlace("slot " + slot, x, () -> x.loadState(slot));
        }
    }

    private void nothingSaved() {
        for (int slot = 0; slot < 2; slot++) {
            int empty = slot;
            BackwardSearch x = Make.search("abab", "ab");
            checks.badState("nothing in " + slot, x, () -> x.loadState(empty));
            x.saveState(1 - slot);
            checks.badState("still nothing in " + slot, x, () -> x.loadState(empty));
            checks.due("but in the other one", x.loadState(1 - slot), 4);
            x.undo();
            x.saveState(slot);
            checks.due("saved in " + slot, x.loadState(slot), 4);
        }
    }
}
