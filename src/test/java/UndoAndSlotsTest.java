/** Promises 34 to 37: undo, and saved states; for the bounds see BoundsOfHistoryTest. */
public final class UndoAndSlotsTest {
    private final Checks checks = new Checks("UndoAndSlotsTest");

    public static void main(String[] args) {
        UndoAndSlotsTest test = new UndoAndSlotsTest();
        test.undoStepByStep();
        test.roundAndRound();
        test.saveAndLoad();
        test.checks.end();
    }

    private void undoStepByStep() {
        BackwardSearch x = Make.search("bananarana", "ana");
        String first = Picture.ofState(x);
        x.look();
        String second = Picture.ofState(x);
        x.finish();
        String third = Picture.ofState(x);
        x.rewind();
        checks.due("35: five", x.undoCount(), 5);
        checks.due("34: four left", x.undo(), 4);
        checks.due("34: rewind undone", Picture.ofState(x), third);
        checks.due("34: three left", x.undo(), 3);
        checks.due("34: finish undone", Picture.ofState(x), second);
        checks.due("34: two left", x.undo(), 2);
        checks.due("34: look undone", Picture.ofState(x), first);
        checks.due("34: one left", x.undo(), 1);
        checks.due("34: takeWord undone", x.wordLength(), 0);
        checks.due("34: none left", x.undo(), 0);
        checks.due("34: takeLine undone", x.lineLength(), 0);
        checks.due("35: none", x.undoCount(), 0);
    }

    private void roundAndRound() {
        BackwardSearch x = Make.search("a".repeat(60), "a");
        for (int round = 0; round < 8; round++) {
            int place = x.place();
            for (int look = 0; look < 5; look++) {
                x.look();
            }
            x.undo();
            x.undo();
            checks.due("34: three of five looks are left", x.place(), place + 3);
        }
    }

    private void saveAndLoad() {
        BackwardSearch x = Make.search("bananarana", "ana");
        x.look();
        x.look();
        String saved = Picture.ofState(x);
        int count = x.undoCount();
        checks.due("36: the length of the line", x.saveState(1), 10);
        checks.due("36: no change", x.undoCount(), count);
        x.finish();
        Make.append(x, "xyz");
        x.takeLine();
        checks.recorded("37: loadState", x, () -> checks.due("37: the length", x.loadState(1), 10));
        checks.due("36: a shorter line", x.saveState(0), 3);
        checks.due("37: loadState", x.loadState(1), 10);
        checks.due("37: all is back", Picture.ofState(x), saved);
        x.look();
        checks.due("37: the slot keeps it", x.loadState(1), 10);
        checks.due("37: all is back again", Picture.ofState(x), saved);
        checks.due("37: the other slot", x.loadState(0), 3);
        checks.due("37: its line", Picture.line(x), "xyz");
        x.rewind();
        x.saveState(1);
        checks.due("36: replaced", x.loadState(1), 3);
        checks.recorded("37: loadState of the same", x, () -> x.loadState(1));
    }
}
