import java.util.function.IntSupplier;

/** Long runs of calls, each answer held against the plain model of the document. */
public final class ModelRunsTest {
    private static final int RUNS = 3000;
    // What an object answers behind its 512th call is free.
    private static final int CALLS = 512;

    private final Checks checks;
    private final int run;
    private final BackwardSearch x = new BackwardSearch();
    private final PlainModel model = new PlainModel();
    private long seed;

    private ModelRunsTest(Checks checks, int run) {
        this.checks = checks;
        this.run = run;
        this.seed = 7919L * run + 12345L;
    }

    public static void main(String[] args) {
        Checks checks = new Checks("ModelRunsTest");
        for (int run = 0; run < RUNS; run++) {
            new ModelRunsTest(checks, run).go();
        }
        checks.end();
    }

    private void go() {
        int used = run % 2 == 0 ? 0 : begin();
        for (int call = used; call < CALLS; call++) {
            int kind = below(100);
            if (kind < 25) {
                text();
            } else if (kind < 60) {
                change();
            } else if (kind < 70) {
                history();
            } else if (kind < 85) {
                skips();
            } else {
                asItIs();
            }
        }
    }

    /** Random texts seldom grow long, so that every second run begins near the limits. */
    private int begin() {
        int calls = appendAll(repeating(52 + below(10)));
        same("takeLine()", x::takeLine, model::takeLine);
        same("clearText()", x::clearText, model::clearText);
        calls += appendAll(repeating(1 + below(17)));
        same("takeWord()", x::takeWord, model::takeWord);
        return calls + 3;
    }

    private int appendAll(String letters) {
        int calls = 0;
        for (int from = 0; from < letters.length(); from += 8) {
            long eight = Make.packed(letters.substring(from, Math.min(from + 8, letters.length())));
            same("appendText(" + eight + ")",
                    () -> x.appendText(eight), () -> model.appendText(eight));
            calls++;
        }
        return calls;
    }

    /** A few letters over and over, now and then with one that breaks the row. */
    private String repeating(int count) {
        StringBuilder letters = new StringBuilder(letters(1 + below(4)).repeat(count));
        letters.setLength(count);
        for (int broken = below(3); broken > 0; broken--) {
            letters.setCharAt(below(count), (char) ('a' + below(4)));
        }
        return letters.toString();
    }

    /** The same numbers on every machine and day. */
    private int below(int bound) {
        seed = seed * 6364136223846793005L + 1442695040888963407L;
        return (int) ((seed >>> 33) % bound);
    }

    private boolean coin() {
        return below(2) == 0;
    }

    private int aboutPlace(int length) {
        int rare = below(60);
        return rare == 0 ? Integer.MAX_VALUE - below(3)
                : rare == 1 ? Integer.MIN_VALUE + below(3) : below(length + 3) - 1;
    }

    private int aboutLetter() {
        int rare = below(60);
        return rare == 0 ? Integer.MAX_VALUE : rare == 1 ? Integer.MIN_VALUE
                : rare < 12 ? below(28) - 1 : below(3);
    }

    /** Few kinds of letters, so that words stand in lines and repeat themselves. */
    private String letters(int count) {
        int kinds = 1 + run % 3;
        StringBuilder letters = new StringBuilder();
        for (int i = 0; i < count; i++) {
            letters.append((char) ('a' + below(kinds)));
        }
        return letters.toString();
    }

    private long characters() {
        int rare = below(60);
        if (rare == 0) {
            return Make.packed(letters(below(4)) + (char) below(256) + letters(below(4)));
        }
        if (rare == 1) {
            return (long) below(1 << 30) << below(40);
        }
        return Make.packed(letters(below(40) == 0 ? 0 : 1 + below(8)));
    }

    private void same(String call, IntSupplier got, IntSupplier want) {
        checks.due("run " + run + ": " + call, outcome(got), outcome(want));
    }

    private static String outcome(IntSupplier call) {
        try {
            return Integer.toString(call.getAsInt());
        } catch (RuntimeException thrown) {
            return "throws." + thrown.getClass().getSimpleName();
        }
    }

    private void text() {
        int kind = below(20);
        if (kind < 10) {
            long characters = characters();
            same("appendText(" + characters + ")",
                    () -> x.appendText(characters), () -> model.appendText(characters));
        } else if (kind < 11) {
            same("clearText()", x::clearText, model::clearText);
        } else if (kind < 13) {
            same("textLength()", x::textLength, model::textLength);
        } else if (kind < 15) {
            same("textError()", x::textError, model::textError);
        } else if (kind < 18) {
            same("takeWord()", x::takeWord, model::takeWord);
        } else {
            same("takeLine()", x::takeLine, model::takeLine);
        }
    }

    private void change() {
        int kind = below(30);
        if (kind < 20) {
            same("look()", x::look, model::look);
        } else if (kind < 23) {
            same("finish()", x::finish, model::finish);
        } else if (kind < 25) {
            same("rewind()", x::rewind, model::rewind);
        } else if (kind < 27) {
            boolean byLetter = coin();
            boolean byEnd = coin();
            same("setRules(" + byLetter + ", " + byEnd + ")",
                    () -> x.setRules(byLetter, byEnd), () -> model.setRules(byLetter, byEnd));
        } else {
            int place = aboutPlace(model.lineLength());
            int letter = aboutLetter();
            same("setLetter(" + place + ", " + letter + ")",
                    () -> x.setLetter(place, letter), () -> model.setLetter(place, letter));
        }
    }

    private void history() {
        int kind = below(20);
        int slot = below(20) == 0 ? aboutPlace(2) : below(2);
        if (kind < 10) {
            same("undo()", x::undo, model::undo);
        } else if (kind < 13) {
            same("undoCount()", x::undoCount, model::undoCount);
        } else if (kind < 16) {
            same("saveState(" + slot + ")", () -> x.saveState(slot), () -> model.saveState(slot));
        } else {
            same("loadState(" + slot + ")", () -> x.loadState(slot), () -> model.loadState(slot));
        }
    }

    private void skips() {
        int place = aboutPlace(model.wordLength());
        int letter = aboutLetter();
        switch (below(8)) {
            case 0 -> same("lastPlaceOf(" + letter + ")",
                    () -> x.lastPlaceOf(letter), () -> model.lastPlaceOf(letter));
            case 1 -> same("letterSkip(" + place + ", " + letter + ")",
                    () -> x.letterSkip(place, letter), () -> model.letterSkip(place, letter));
            case 2 -> same("endSkip(" + place + ")",
                    () -> x.endSkip(place), () -> model.endSkip(place));
            case 3 -> same("endSkipByTrying(" + place + ")",
                    () -> x.endSkipByTrying(place), () -> model.endSkip(place));
            case 4 -> same("border()", x::border, model::border);
            case 5 -> same("period()", x::period, model::period);
            case 6 -> same("wordLetter(" + place + ")",
                    () -> x.wordLetter(place), () -> model.wordLetter(place));
            default -> same("wordLength()", x::wordLength, model::wordLength);
        }
    }

    private void asItIs() {
        int place = aboutPlace(model.lineLength());
        int number = aboutPlace(model.foundCount());
        boolean byLetter = coin();
        boolean byEnd = coin();
        switch (below(13)) {
            case 0 -> same("place()", x::place, model::place);
            case 1 -> same("isOver()", () -> x.isOver() ? 1 : 0, model::isOver);
            case 2 -> same("lookCount()", x::lookCount, model::lookCount);
            case 3 -> same("comparedCount()", x::comparedCount, model::comparedCount);
            case 4 -> same("foundCount()", x::foundCount, model::foundCount);
            case 5 -> same("foundPlace(" + number + ")",
                    () -> x.foundPlace(number), () -> model.foundPlace(number));
            case 6 -> same("skippedPlaces()", x::skippedPlaces, model::skippedPlaces);
            case 7 -> same("occurrences()", x::occurrences, model::occurrences);
            case 8 -> same("occurrencesByTrying()", x::occurrencesByTrying, model::occurrences);
            case 9 -> same("comparedWith(" + byLetter + ", " + byEnd + ")",
                    () -> x.comparedWith(byLetter, byEnd), () -> model.comparedWith(byLetter, byEnd));
            case 10 -> same("differenceAt(" + place + ")",
                    () -> x.differenceAt(place), () -> model.differenceAt(place));
            case 11 -> same("lineLetter(" + place + ")",
                    () -> x.lineLetter(place), () -> model.lineLetter(place));
            default -> same("lineLength()", x::lineLength, model::lineLength);
        }
    }
}
