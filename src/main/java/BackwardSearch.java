/**
 * A search for a word in a line of letters that compares from the last letter of the word
 * backwards, and skips as far as two rules allow.
 */
public final class BackwardSearch {
    /** There is no such thing. */
    public static final int NONE = -1;

    private static final int LETTERS = 26;
    private static final int LONGEST_LINE = 60;
    private static final int LONGEST_WORD = 16;
    private static final int LONGEST_TEXT = 80;
    private static final int MOST_CHARACTERS = 8;
    private static final int LOWEST_CODE = 33;
    private static final int HIGHEST_CODE = 126;
    private static final int MOST_RECORDED = 6;
    private static final int SLOTS = 2;

    private final State state = new State();
    private final State trial = new State();
    private final Ends ends = new Ends();
    private final History history = new History();
    private final State[] slots = new State[SLOTS];
    private final boolean[] saved = new boolean[SLOTS];
    private final Row text = new Row(LONGEST_TEXT);

    /** Creates a search with an empty line and an empty word. */
    public BackwardSearch() {
        for (int slot = 0; slot < slots.length; slot++) {
            slots[slot] = new State();
        }
    }

    // ---- changes

    /** Makes the text the line; returns the length of the line. */
    public int takeLine() throws IllegalStateException {
        refuseTextUnlessLetters(LONGEST_LINE);
        history.keep(state);
        moveText(state.line);
        state.beginAnew();
        return state.line.size();
    }

    /** Makes the text the word; returns the length of the word. */
    public int takeWord() throws IllegalStateException {
        refuseTextUnlessLetters(LONGEST_WORD);
        history.keep(state);
        moveText(state.word);
        state.beginAnew();
        return state.word.size();
    }

    /** Turns the rules on and off; returns how many were on before. */
    public int setRules(boolean letterRule, boolean endRule) {
        history.keep(state);
        int before = state.rulesOn();
        state.useRules(letterRule, endRule);
        state.beginAnew();
        return before;
    }

    /** Makes a look; returns the skip. */
    public int look() throws IllegalStateException {
        if (state.hasEnded()) {
            throw new IllegalStateException("the search is over");
        }
        history.keep(state);
        ends.study(state.word);
        return state.lookOnce(ends);
    }

    /** Makes looks until the search is over; returns how many. */
    public int finish() {
        history.keep(state);
        ends.study(state.word);
        return state.lookToTheEnd(ends);
    }

    /** Begins the search anew; returns how many looks were made. */
    public int rewind() {
        history.keep(state);
        int before = state.looks;
        state.beginAnew();
        return before;
    }

    /** Changes a letter of the line; returns the previous one. */
    public int setLetter(int place, int letter)
            throws IndexOutOfBoundsException, IllegalArgumentException {
        refuseUnlessIn(state.line, place);
        refuseUnlessLetter(letter);
        history.keep(state);
        int before = state.line.at(place);
        state.line.put(place, letter);
        state.beginAnew();
        return before;
    }

    // ---- line and word

    /** Returns the length of the line. */
    public int lineLength() {
        return state.line.size();
    }

    /** Returns the length of the word. */
    public int wordLength() {
        return state.word.size();
    }

    /** Returns a letter of the line. */
    public int lineLetter(int place) throws IndexOutOfBoundsException {
        refuseUnlessIn(state.line, place);
        return state.line.at(place);
    }

    /** Returns a letter of the word. */
    public int wordLetter(int place) throws IndexOutOfBoundsException {
        refuseUnlessIn(state.word, place);
        return state.word.at(place);
    }

    // ---- the search as it is

    /** Returns the place of the search, also if it is over. */
    public int place() {
        return state.place;
    }

    /** Tells whether the search is over. */
    public boolean isOver() {
        return state.hasEnded();
    }

    /** Returns how many looks were made. */
    public int lookCount() {
        return state.looks;
    }

    /** Returns how many letters were compared. */
    public int comparedCount() {
        return state.compared;
    }

    /** Returns how many places were found. */
    public int foundCount() {
        return state.found.size();
    }

    /** Returns a place that was found, number 0 being the first one. */
    public int foundPlace(int number) throws IndexOutOfBoundsException {
        refuseUnlessIn(state.found, number);
        return state.found.at(number);
    }

    /** Returns at how many places below the search the word could begin, but had no look. */
    public int skippedPlaces() {
        return Math.min(state.place, state.beginnings()) - state.looks;
    }

    // ---- skips

    /** Returns the greatest place of the word that has a letter; NONE if there is none. */
    public int lastPlaceOf(int letter) throws IllegalArgumentException {
        refuseUnlessLetter(letter);
        return state.word.lastPlaceWith(letter);
    }

    /** Returns the letter skip for a place of the word and a letter of the line. */
    public int letterSkip(int place, int letter)
            throws IndexOutOfBoundsException, IllegalArgumentException {
        refuseUnlessIn(state.word, place);
        refuseUnlessLetter(letter);
        return state.skipByLetter(place, letter);
    }

    /** Returns the end skip for a place of the word, found from the borders of its ends. */
    public int endSkip(int place) throws IndexOutOfBoundsException {
        refuseUnlessIn(state.word, place);
        ends.study(state.word);
        return ends.skipAt(place);
    }

    /** Returns the end skip for a place of the word, found by trying all numbers. */
    public int endSkipByTrying(int place) throws IndexOutOfBoundsException {
        refuseUnlessIn(state.word, place);
        int length = state.word.size();
        for (int skip = 1; skip < length; skip++) {
            if (endFits(state.word, place, skip)) {
                return skip;
            }
        }
        return length;
    }

    /** Returns the border of the word, 0 if it is empty. */
    public int border() {
        ends.study(state.word);
        return state.word.size() - ends.wordPeriod();
    }

    /** Returns the period of the word, 0 if it is empty. */
    public int period() {
        ends.study(state.word);
        return ends.wordPeriod();
    }

    // ---- what would be

    /** Returns at how many places the word stands, found by a search with both rules. */
    public int occurrences() {
        tryToTheEnd(true, true);
        return trial.found.size();
    }

    /** Returns at how many places the word stands, found by trying all places. */
    public int occurrencesByTrying() {
        if (state.word.isEmpty()) {
            return 0;
        }
        int count = 0;
        for (int place = 0; place < state.beginnings(); place++) {
            if (wordStandsAt(place)) {
                count++;
            }
        }
        return count;
    }

    /** Returns how many letters a whole search would compare with given rules. */
    public int comparedWith(boolean letterRule, boolean endRule) {
        tryToTheEnd(letterRule, endRule);
        return trial.compared;
    }

    /** Returns the place of the word where a look would find different letters first, or NONE. */
    public int differenceAt(int place) throws IndexOutOfBoundsException, IllegalStateException {
        if (place < 0 || place >= state.beginnings()) {
            throw new IndexOutOfBoundsException("the word does not fit there");
        }
        if (state.word.isEmpty()) {
            throw new IllegalStateException("the word is empty");
        }
        return state.lastDifferenceAt(place);
    }

    // ---- the text

    /** Appends up to 8 characters to the text; returns its length afterwards. */
    public int appendText(long characters)
            throws IllegalArgumentException, IllegalStateException {
        int count = countCharacters(characters);
        if (count < 1) {
            throw new IllegalArgumentException("no characters that can be appended");
        }
        if (text.size() + count > LONGEST_TEXT) {
            throw new IllegalStateException("the text would be too long");
        }
        for (int group = count - 1; group >= 0; group--) {
            text.add(codeOf(characters, group));
        }
        return text.size();
    }

    /** Empties the text; returns the length that it had. */
    public int clearText() {
        int before = text.size();
        text.clear();
        return before;
    }

    /** Returns the length of the text. */
    public int textLength() {
        return text.size();
    }

    /** Returns the index of the first character that is not a to z; NONE if there is none. */
    public int textError() {
        for (int index = 0; index < text.size(); index++) {
            int code = text.at(index);
            if (code < 'a' || code > 'z') {
                return index;
            }
        }
        return NONE;
    }

    // ---- undo, saved states

    /** Undoes the latest change; returns how many recorded states are left. */
    public int undo() throws IllegalStateException {
        if (history.size() == 0) {
            throw new IllegalStateException("no state is recorded");
        }
        history.giveBack(state);
        return history.size();
    }

    /** Returns how many changes can be undone. */
    public int undoCount() {
        return history.size();
    }

    /** Saves the state in a slot; returns the length of the line. */
    public int saveState(int slot) throws IndexOutOfBoundsException {
        refuseUnlessSlot(slot);
        slots[slot].copy(state);
        saved[slot] = true;
        return state.line.size();
    }

    /** Loads the state that was saved in a slot; returns the length of the line afterwards. */
    public int loadState(int slot) throws IndexOutOfBoundsException, IllegalStateException {
        refuseUnlessSlot(slot);
        if (!saved[slot]) {
            throw new IllegalStateException("nothing was saved in the slot");
        }
        history.keep(state);
        state.copy(slots[slot]);
        return state.line.size();
    }

    // ---- what the calls refuse

    private static void refuseUnlessIn(Row row, int place) {
        if (!row.has(place)) {
            throw new IndexOutOfBoundsException("there is no such place");
        }
    }

    private static void refuseUnlessLetter(int letter) {
        if (letter < 0 || letter >= LETTERS) {
            throw new IllegalArgumentException("there is no such letter");
        }
    }

    private static void refuseUnlessSlot(int slot) {
        if (slot < 0 || slot >= SLOTS) {
            throw new IndexOutOfBoundsException("there is no such slot");
        }
    }

    private void refuseTextUnlessLetters(int most) {
        if (textError() != NONE) {
            throw new IllegalStateException("the text has an error");
        }
        if (text.size() > most) {
            throw new IllegalStateException("the text has too many letters");
        }
    }

    // ---- helpers of the text

    private void moveText(Row into) {
        into.clear();
        for (int index = 0; index < text.size(); index++) {
            into.add(text.at(index) - 'a');
        }
        text.clear();
    }

    private static int codeOf(long characters, int group) {
        return (int) ((characters >>> (8 * group)) & 255L);
    }

    /** NONE stands for characters that are not to be appended at all. */
    private static int countCharacters(long characters) {
        int count = 0;
        while (count < MOST_CHARACTERS && codeOf(characters, count) != 0) {
            int code = codeOf(characters, count);
            if (code < LOWEST_CODE || code > HIGHEST_CODE) {
                return NONE;
            }
            count++;
        }
        return isZeroFrom(characters, count) ? count : NONE;
    }

    /** A shift by all 64 bits would shift by none, so the full number is told apart. */
    private static boolean isZeroFrom(long characters, int group) {
        return group >= MOST_CHARACTERS || (characters >>> (8 * group)) == 0L;
    }

    // ---- helpers of the answers

    /** The search that the caller sees must not move, so another one runs. */
    private void tryToTheEnd(boolean letterRule, boolean endRule) {
        trial.copy(state);
        trial.useRules(letterRule, endRule);
        trial.beginAnew();
        ends.study(trial.word);
        trial.lookToTheEnd(ends);
    }

    /** Compares forwards, so that it shares nothing with the looks that it is to confirm. */
    private boolean wordStandsAt(int place) {
        for (int i = 0; i < state.word.size(); i++) {
            if (state.line.at(place + i) != state.word.at(i)) {
                return false;
            }
        }
        return true;
    }

    /** Whether the word, put further on by the skip, fits what a difference at the place tells. */
    private static boolean endFits(Row word, int place, int skip) {
        if (place >= skip && word.at(place) == word.at(place - skip)) {
            return false;
        }
        for (int i = Math.max(place + 1, skip); i < word.size(); i++) {
            if (word.at(i) != word.at(i - skip)) {
                return false;
            }
        }
        return true;
    }

    /** Numbers in a row, up to a limit; it alone uses an index on its array. */
    private static final class Row {
        private final int[] numbers;
        private int length;

        Row(int limit) {
            numbers = new int[Math.max(limit, 0)];
        }

        int size() {
            return length;
        }

        boolean isEmpty() {
            return length == 0;
        }

        boolean has(int place) {
            return place >= 0 && place < length;
        }

        /** NONE, which is no letter and no place, stands behind the ends of the row. */
        int at(int place) {
            return has(place) ? numbers[place] : NONE;
        }

        void put(int place, int number) {
            if (has(place)) {
                numbers[place] = number;
            }
        }

        void add(int number) {
            if (length < numbers.length) {
                numbers[length] = number;
                length++;
            }
        }

        void clear() {
            length = 0;
        }

        void copy(Row other) {
            clear();
            for (int place = 0; place < other.length; place++) {
                add(other.numbers[place]);
            }
        }

        int lastPlaceWith(int number) {
            for (int place = length - 1; place >= 0; place--) {
                if (numbers[place] == number) {
                    return place;
                }
            }
            return NONE;
        }
    }

    /** All that a change can alter and that undo brings back. */
    private static final class State {
        private final Row line = new Row(LONGEST_LINE);
        private final Row word = new Row(LONGEST_WORD);
        private final Row found = new Row(LONGEST_LINE);
        private boolean letterRule = true;
        private boolean endRule = true;
        private int place;
        private int looks;
        private int compared;

        void copy(State other) {
            line.copy(other.line);
            word.copy(other.word);
            found.copy(other.found);
            letterRule = other.letterRule;
            endRule = other.endRule;
            place = other.place;
            looks = other.looks;
            compared = other.compared;
        }

        void beginAnew() {
            place = 0;
            looks = 0;
            compared = 0;
            found.clear();
        }

        void useRules(boolean byLetter, boolean byEnd) {
            letterRule = byLetter;
            endRule = byEnd;
        }

        int rulesOn() {
            return (letterRule ? 1 : 0) + (endRule ? 1 : 0);
        }

        /** At how many places of the line the word could begin. */
        int beginnings() {
            return Math.max(line.size() - word.size() + 1, 0);
        }

        boolean hasEnded() {
            return word.isEmpty() || place >= beginnings();
        }

        int lookToTheEnd(Ends ends) {
            int made = 0;
            while (made < LONGEST_LINE && !hasEnded()) {
                lookOnce(ends);
                made++;
            }
            return made;
        }

        int lookOnce(Ends ends) {
            int difference = lastDifferenceAt(place);
            looks++;
            compared += word.size() - Math.max(difference, 0);
            int skip = skipBehind(difference, ends);
            if (difference == NONE) {
                found.add(place);
            }
            place += skip;
            return skip;
        }

        /** The last one, because a look compares backwards and so meets it first. */
        int lastDifferenceAt(int start) {
            for (int i = word.size() - 1; i >= 0; i--) {
                if (word.at(i) != line.at(start + i)) {
                    return i;
                }
            }
            return NONE;
        }

        private int skipBehind(int difference, Ends ends) {
            if (difference == NONE) {
                return ends.wordPeriod();
            }
            int skip = 1;
            if (letterRule) {
                skip = Math.max(skip, skipByLetter(difference, line.at(place + difference)));
            }
            if (endRule) {
                skip = Math.max(skip, ends.skipAt(difference));
            }
            return skip;
        }

        /** For a letter that the word lacks, NONE is just the place that makes the skip right. */
        int skipByLetter(int wordPlace, int letter) {
            return wordPlace - word.lastPlaceWith(letter);
        }
    }

    /**
     * The ends of a word, each named by the place where it begins, from the whole word at 0 to the
     * empty end behind the last letter; their borders, and the skips that these allow.
     */
    private static final class Ends {
        private final int[] borderOf = new int[LONGEST_WORD + 1];
        private final int[] skipOf = new int[LONGEST_WORD + 1];
        private int length;

        void study(Row word) {
            length = Math.min(word.size(), LONGEST_WORD);
            for (int end = 0; end <= length; end++) {
                skipOf[end] = 0;
            }
            findBorders(word);
            skipToBordersOfTheWord();
        }

        /** The end skip for a difference just ahead of the end that begins behind the place. */
        int skipAt(int place) {
            return place >= 0 && place < length ? skipOf[place + 1] : 0;
        }

        /** The word put as far on as its widest border begins fits itself, and never sooner. */
        int wordPeriod() {
            return length == 0 ? 0 : borderOf[0];
        }

        /** Finds where the widest border of each end begins; length + 1 says that it has none. */
        private void findBorders(Row word) {
            int border = length + 1;
            borderOf[length] = border;
            for (int end = length; end > 0; end--) {
                border = borderThatGrows(word, end, border) - 1;
                borderOf[end - 1] = border;
            }
        }

        /**
         * A border grows if the letter ahead of it is also the one ahead of the end; if it is not,
         * the border stands there behind another letter, which is what an end skip asks for. The
         * ends come from the shortest on, so the first skip noted for a border is the least.
         */
        private int borderThatGrows(Row word, int end, int widest) {
            int border = widest;
            for (int tried = 0; tried <= length; tried++) {
                if (border <= 0 || border > length || word.at(end - 1) == word.at(border - 1)) {
                    return border;
                }
                if (skipOf[border] == 0) {
                    skipOf[border] = border - end;
                }
                border = borderOf[border];
            }
            return border;
        }

        /** Where an end stands nowhere else in full, the borders of the word still fit. */
        private void skipToBordersOfTheWord() {
            int border = borderOf[0];
            for (int end = 0; end <= length; end++) {
                if (skipOf[end] == 0) {
                    skipOf[end] = border;
                }
                if (end == border) {
                    border = borderOf[end];
                }
            }
        }
    }

    /** The recorded states, the latest one last; the ones that are free stand ahead of them. */
    private static final class History {
        private final State[] kept = new State[MOST_RECORDED];
        private int count;

        History() {
            for (int i = 0; i < kept.length; i++) {
                kept[i] = new State();
            }
        }

        int size() {
            return count;
        }

        /** The first one is free, or else the oldest one, which is to be dropped. */
        void keep(State state) {
            State first = kept[0];
            for (int i = 1; i < kept.length; i++) {
                kept[i - 1] = kept[i];
            }
            kept[kept.length - 1] = first;
            first.copy(state);
            count = Math.min(count + 1, kept.length);
        }

        void giveBack(State into) {
            if (count > 0) {
                State last = kept[kept.length - 1];
                for (int i = kept.length - 1; i > 0; i--) {
                    kept[i] = kept[i - 1];
                }
                kept[0] = last;
                into.copy(last);
                count--;
            }
        }
    }
}
