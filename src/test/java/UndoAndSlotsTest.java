/** Promises 34 to 37: undo, and saved states. */
public final class UndoAndSlotsTest {
    private final Checks checks = new Checks("UndoAndSlotsTest");

    public static void main(String[] args) {
        UndoAndSlotsTest test = new UndoAndSlotsTest();
        test.undoStepByStep();
        test.sixAreKept();
        test.roundAndRound();
        test.refusedCallsAreNotRecorded();
        test.rulesAreInTheState();
        test.undoRefuses();
        test.saveAndLoad();
        test.slotsOutliveUndo();
        test.slotRefusals();
        test.checks.end();
    }

    private void undoStepByStep() {
        BackwardSearch x = Make.search("bananarana", "ana");
        String first = Picture.ofState(x);
        x.look();
        String second = Picture.ofState(x);
        x.finish();
        String third = Picture.ofState(x);
        x.rewind();
        checks.due("35: five", x.undoCount(), 5);
        checks.due("34: four left", x.undo(), 4);
        checks.due("34: rewind undone", Picture.ofState(x), third);
        checks.due("34: three left", x.undo(), 3);
        checks.due("34: finish undone", Picture.ofState(x), second);
        checks.due("34: two left", x.undo(), 2);
        checks.due("34: look undone", Picture.ofState(x), first);
        checks.due("34: one left", x.undo(), 1);
        checks.due("34: takeWord undone", x.wordLength(), 0);
        checks.due("34: none left", x.undo(), 0);
        checks.due("34: takeLine undone", x.lineLength(), 0);
        checks.due("35: none", x.undoCount(), 0);
    }

    private void sixAreKept() {
        BackwardSearch x = Make.search("aaaaaaaaaaaa", "a");
        for (int look = 1; look <= 9; look++) {
            x.look();
            checks.due("35: behind " + look + " looks", x.undoCount(), Math.min(look + 2, 6));
        }
        for (int left = 5; left >= 0; left--) {
            checks.due("34: left", x.undo(), left);
            checks.due("34: looks left", x.lookCount(), left + 3);
            checks.due("34: found left", x.foundCount(), left + 3);
        }
        checks.badState("34: the older ones were dropped", x, x::undo);
    }

    private void roundAndRound() {
        BackwardSearch x = Make.search("a".repeat(60), "a");
        for (int round = 0; round < 8; round++) {
            int place = x.place();
            for (int look = 0; look < 5; look++) {
                x.look();
            }
            x.undo();
            x.undo();
            checks.due("34: three of five looks are left", x.place(), place + 3);
        }
    }

    private void refusedCallsAreNotRecorded() {
        BackwardSearch x = Make.search("ab", "ab");
        x.finish();
        Make.append(x, "!");
        checks.badState("5 is not recorded", x, x::look);
        checks.badState("2 is not recorded", x, x::takeLine);
        checks.badState("3 is not recorded", x, x::takeWord);
        checks.noSuchPlace("8 is not recorded", x, () -> x.setLetter(2, 0));
        checks.badState("37 is not recorded", x, () -> x.loadState(0));
        checks.due("35: three changes", x.undoCount(), 3);
        x.saveState(0);
        x.clearText();
        x.occurrences();
        checks.due("35: no changes among these", x.undoCount(), 3);
    }

    private void rulesAreInTheState() {
        BackwardSearch x = Make.search("aaaaaa", "baa");
        x.setRules(true, false);
        x.saveState(1);
        x.setRules(false, true);
        x.undo();
        checks.due("34: the letter rule alone", x.look(), 1);
        checks.due("34: one rule", x.setRules(false, true), 1);
        checks.due("34: the end rule alone", x.look(), 3);
        x.setRules(true, true);
        x.loadState(1);
        checks.due("37: the letter rule alone", x.look(), 1);
        x.undo();
        checks.due("34: no look", x.lookCount(), 0);
        x.undo();
        checks.due("34: loadState undone, both rules", x.setRules(true, true), 2);
    }

    private void undoRefuses() {
        BackwardSearch x = new BackwardSearch();
        checks.badState("34: nothing yet", x, x::undo);
        x.rewind();
        checks.due("34: a change that altered nothing", x.undo(), 0);
        checks.badState("34: undone already", x, x::undo);
    }

    private void saveAndLoad() {
        BackwardSearch x = Make.search("bananarana", "ana");
        x.look();
        x.look();
        String saved = Picture.ofState(x);
        int count = x.undoCount();
        checks.due("36: the length of the line", x.saveState(1), 10);
        checks.due("36: no change", x.undoCount(), count);
        x.finish();
        Make.append(x, "xyz");
        x.takeLine();
        checks.recorded("37: loadState", x, () -> checks.due("37: the length", x.loadState(1), 10));
        checks.due("36: a shorter line", x.saveState(0), 3);
        checks.due("37: loadState", x.loadState(1), 10);
        checks.due("37: all is back", Picture.ofState(x), saved);
        x.look();
        checks.due("37: the slot keeps it", x.loadState(1), 10);
        checks.due("37: all is back again", Picture.ofState(x), saved);
        checks.due("37: the other slot", x.loadState(0), 3);
        checks.due("37: its line", Picture.line(x), "xyz");
        x.rewind();
        x.saveState(1);
        checks.due("36: replaced", x.loadState(1), 3);
        checks.recorded("37: loadState of the same", x, () -> x.loadState(1));
    }

    private void slotsOutliveUndo() {
        BackwardSearch x = new BackwardSearch();
        Make.append(x, "abc");
        x.takeLine();
        x.saveState(0);
        x.undo();
        checks.due("34: the line is gone", x.lineLength(), 0);
        checks.due("34: the slot is not", x.loadState(0), 3);
        x.setLetter(0, 25);
        x.loadState(0);
        checks.due("37: a letter changed later", Picture.line(x), "abc");
        BackwardSearch empty = new BackwardSearch();
        checks.due("36: an empty state", empty.saveState(0), 0);
        checks.due("37: an empty state", empty.loadState(0), 0);
    }

    private void slotRefusals() {
        BackwardSearch x = Make.search("abab", "ab");
        x.look();
        checks.noSuchPlace("36: slot -1", x, () -> x.saveState(-1));
        checks.noSuchPlace("36: slot 2", x, () -> x.saveState(2));
        checks.noSuchPlace("36: highest", x, () -> x.saveState(Integer.MAX_VALUE));
        checks.noSuchPlace("37: slot -1", x, () -> x.loadState(-1));
        checks.noSuchPlace("37: slot 2", x, () -> x.loadState(2));
        checks.badState("37: nothing in 0", x, () -> x.loadState(0));
        checks.badState("37: nothing in 1", x, () -> x.loadState(1));
        x.saveState(0);
        checks.badState("37: still nothing in 1", x, () -> x.loadState(1));
        checks.due("37: but in 0", x.loadState(0), 4);
    }
}
