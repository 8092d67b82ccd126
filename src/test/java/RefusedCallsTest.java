import java.util.List;
import java.util.function.Consumer;
import java.util.function.Function;
import java.util.function.Supplier;

/**
 * "A call that throws an exception changes nothing; if several exceptions apply, the first one of
 * the throws clause is thrown." Two objects are made alike, one of them refuses a call, and all that
 * can be got out of both, also what has to be loaded, undone or taken first, is the same.
 */
public final class RefusedCallsTest {
    private static final Class<? extends Exception> PLACE = IndexOutOfBoundsException.class;
    private static final Class<? extends Exception> ARGUMENT = IllegalArgumentException.class;
    private static final Class<? extends Exception> STATE = IllegalStateException.class;
    private static final int LOWEST = Integer.MIN_VALUE;
    private static final int HIGHEST = Integer.MAX_VALUE;

    /** Each one uses up the object that it is given. */
    private static final List<Function<BackwardSearch, String>> PROBES = List.of(
            Picture::of,
            RefusedCallsTest::rules,
            RefusedCallsTest::text,
            x -> slot(x, 0),
            x -> slot(x, 1),
            RefusedCallsTest::history);

    private final Checks checks = new Checks("RefusedCallsTest");

    public static void main(String[] args) {
        RefusedCallsTest test = new RefusedCallsTest();
        test.probesTellObjectsApart();
        test.checks.sentence("A call that throws an exception changes nothing", test::changes);
        test.checks.sentence("A call that throws an exception changes nothing", test::answers);
        test.checks.sentence("A call that throws an exception changes nothing", test::texts);
        test.checks.sentence("A call that throws an exception changes nothing", test::history);
        test.checks.sentence("the first one of the throws clause is thrown", test::several);
        test.checks.end();
    }

    /** Every part is in use: line, word, one rule, looks, the text, a slot, and six states. */
    private static BackwardSearch busy(String text) {
        BackwardSearch x = Make.search("bananaban", "ana");
        x.look();
        x.saveState(0);
        x.setRules(false, true);
        x.look();
        x.setLetter(8, 25);
        x.setRules(true, false);
        x.look();
        x.look();
        Make.append(x, text);
        return x;
    }

    private static BackwardSearch over(String line, String word) {
        BackwardSearch x = busy("z");
        x.clearText();
        Make.append(x, line);
        x.takeLine();
        Make.append(x, word);
        x.takeWord();
        x.finish();
        Make.append(x, "xyz");
        return x;
    }

    private static BackwardSearch allUndone() {
        BackwardSearch x = busy("xyz");
        while (x.undoCount() > 0) {
            x.undo();
        }
        return x;
    }

    private static String rules(BackwardSearch x) {
        x.clearText();
        Make.append(x, "xxxxxx");
        x.takeLine();
        Make.append(x, "abc");
        x.takeWord();
        int byLetter = x.look();
        Make.append(x, "aaaaaa");
        x.takeLine();
        Make.append(x, "baa");
        x.takeWord();
        return "skips " + byLetter + " and " + x.look();
    }

    private static String text(BackwardSearch x) {
        if (x.textError() != BackwardSearch.NONE || x.textLength() > 60) {
            return "length " + x.textLength() + " error " + x.textError();
        }
        x.takeLine();
        return "text " + Picture.line(x);
    }

    private static String slot(BackwardSearch x, int slot) {
        try {
            x.loadState(slot);
        } catch (IllegalStateException thrown) {
            return "nothing";
        }
        return Picture.ofState(x) + " " + rules(x);
    }

    private static String history(BackwardSearch x) {
        StringBuilder states = new StringBuilder();
        while (x.undoCount() > 0) {
            x.undo();
            states.append(Picture.ofState(x));
            states.append(" rules ").append(x.setRules(true, true)).append("; ");
            x.undo();
        }
        return states + rules(x);
    }

    private void refused(String what, Class<? extends Exception> due,
            Supplier<BackwardSearch> maker, Consumer<BackwardSearch> call) {
        for (Function<BackwardSearch, String> probe : PROBES) {
            BackwardSearch refusing = maker.get();
            checks.due(what, outcome(refusing, call), due.getSimpleName());
            checks.due(what + " changes nothing", probe.apply(refusing), probe.apply(maker.get()));
        }
    }

    private static String outcome(BackwardSearch x, Consumer<BackwardSearch> call) {
        try {
            call.accept(x);
            return "nothing";
        } catch (RuntimeException thrown) {
            return thrown.getClass().getSimpleName();
        }
    }

    /** A probe that sees no difference where there is one would make every other test worthless. */
    private void probesTellObjectsApart() {
        tellsApart("the state", 0, x -> x.setLetter(0, 25));
        tellsApart("the rules", 1, x -> x.setRules(false, true));
        tellsApart("no rules", 1, x -> x.setRules(false, false));
        tellsApart("the text", 2, x -> {
            x.clearText();
            Make.append(x, "xya");
        });
        tellsApart("the first slot", 3, x -> x.saveState(0));
        tellsApart("the second slot", 4, x -> x.saveState(1));
        tellsApart("the history", 5, BackwardSearch::rewind);
        tellsApart("the history", 5, x -> x.loadState(0));
    }

    private void tellsApart(String what, int probe, Consumer<BackwardSearch> call) {
        BackwardSearch changed = busy("xyz");
        call.accept(changed);
        String before = PROBES.get(probe).apply(busy("xyz"));
        checks.due(what, PROBES.get(probe).apply(changed).equals(before), false);
    }

    private void changes() {
        for (String wrong : List.of("!", "ab!", "A", "a".repeat(79) + "Z")) {
            refused("takeLine of " + wrong, STATE, () -> busy(wrong), BackwardSearch::takeLine);
            refused("takeWord of " + wrong, STATE, () -> busy(wrong), BackwardSearch::takeWord);
        }
        for (int length : new int[] {61, 80}) {
            String text = "a".repeat(length);
            refused("takeLine of " + length, STATE, () -> busy(text), BackwardSearch::takeLine);
        }
        for (int length : new int[] {17, 60, 61, 80}) {
            String text = "a".repeat(length);
            refused("takeWord of " + length, STATE, () -> busy(text), BackwardSearch::takeWord);
        }
        refused("look when over", STATE, () -> over("bananaban", "ana"), BackwardSearch::look);
        refused("look with no word", STATE, () -> over("banana", ""), BackwardSearch::look);
        refused("look with no line", STATE, () -> over("", "ana"), BackwardSearch::look);
        refused("look for a longer word", STATE, () -> over("ana", "anab"), BackwardSearch::look);
        refused("look at first", STATE, BackwardSearch::new, BackwardSearch::look);
        for (int place : new int[] {-1, 9, 60, LOWEST, HIGHEST}) {
            refused("setLetter", PLACE, () -> busy("xyz"), x -> x.setLetter(place, 0));
        }
        for (int letter : new int[] {-1, 26, LOWEST, HIGHEST}) {
            refused("setLetter", ARGUMENT, () -> busy("xyz"), x -> x.setLetter(8, letter));
        }
    }

    private void answers() {
        for (int place : new int[] {-1, 9, LOWEST, HIGHEST}) {
            refused("lineLetter", PLACE, () -> busy("xyz"), x -> x.lineLetter(place));
            refused("foundPlace", PLACE, () -> busy("xyz"), x -> x.foundPlace(place));
            refused("differenceAt", PLACE, () -> busy("xyz"), x -> x.differenceAt(place));
        }
        for (int place : new int[] {-1, 3, LOWEST, HIGHEST}) {
            refused("wordLetter", PLACE, () -> busy("xyz"), x -> x.wordLetter(place));
            refused("letterSkip", PLACE, () -> busy("xyz"), x -> x.letterSkip(place, 0));
            refused("endSkip", PLACE, () -> busy("xyz"), x -> x.endSkip(place));
            refused("endSkipByTrying", PLACE, () -> busy("xyz"), x -> x.endSkipByTrying(place));
        }
        for (int letter : new int[] {-1, 26, LOWEST, HIGHEST}) {
            refused("lastPlaceOf", ARGUMENT, () -> busy("xyz"), x -> x.lastPlaceOf(letter));
            refused("letterSkip", ARGUMENT, () -> busy("xyz"), x -> x.letterSkip(2, letter));
        }
        refused("differenceAt, no word", STATE, () -> over("banana", ""), x -> x.differenceAt(6));
    }

    private void texts() {
        for (long wrong : new long[] {0L, 32L, 127L, 255L, -1L, 0x6100L, 0x610061L,
                Long.MIN_VALUE | 'a', 0x2061616161616161L, 0x6161616161616120L}) {
            refused("appendText", ARGUMENT, () -> busy("xyz"), x -> x.appendText(wrong));
        }
        refused("appendText, full", STATE, () -> busy("a".repeat(80)), x -> x.appendText('a'));
        refused("appendText, nearly full", STATE, () -> busy("a".repeat(75)),
                x -> x.appendText(Make.packed("abcdef")));
    }

    private void history() {
        refused("undo at first", STATE, BackwardSearch::new, BackwardSearch::undo);
        refused("undo when all is undone", STATE, RefusedCallsTest::allUndone,
                BackwardSearch::undo);
        for (int slot : new int[] {-1, 2, LOWEST, HIGHEST}) {
            refused("saveState", PLACE, () -> busy("xyz"), x -> x.saveState(slot));
            refused("loadState", PLACE, () -> busy("xyz"), x -> x.loadState(slot));
        }
        refused("loadState of nothing", STATE, () -> busy("xyz"), x -> x.loadState(1));
    }

    private void several() {
        for (int place : new int[] {-1, 9, LOWEST, HIGHEST}) {
            for (int letter : new int[] {-1, 26, LOWEST, HIGHEST}) {
                refused("setLetter", PLACE, () -> busy("xyz"), x -> x.setLetter(place, letter));
                refused("letterSkip", PLACE, () -> busy("xyz"), x -> x.letterSkip(place, letter));
            }
        }
        refused("setLetter, no line", PLACE, BackwardSearch::new, x -> x.setLetter(0, 26));
        refused("letterSkip, no word", PLACE, BackwardSearch::new, x -> x.letterSkip(0, 26));
        for (int place : new int[] {-1, 7, LOWEST, HIGHEST}) {
            refused("differenceAt, no word", PLACE, () -> over("banana", ""),
                    x -> x.differenceAt(place));
        }
        for (long wrong : new long[] {0L, 32L, -1L, 0x610061L, 0x6161616161616120L}) {
            refused("appendText, full", ARGUMENT, () -> busy("a".repeat(80)),
                    x -> x.appendText(wrong));
        }
        for (int slot : new int[] {-1, 2}) {
            refused("loadState, none saved", PLACE, BackwardSearch::new, x -> x.loadState(slot));
        }
    }
}
