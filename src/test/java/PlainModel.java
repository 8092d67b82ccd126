import java.util.ArrayList;
import java.util.List;

/** The document once more, in strings and lists and with nothing remembered that can be asked anew. */
final class PlainModel {
    /** A state; it is never altered, so that keeping it is enough to save it. */
    record Snapshot(String line, String word, boolean letterRule, boolean endRule,
            int place, int looks, int compared, List<Integer> found) {
        Snapshot anew() {
            return new Snapshot(line, word, letterRule, endRule, 0, 0, 0, List.of());
        }

        Snapshot withLine(String other) {
            return new Snapshot(other, word, letterRule, endRule, place, looks, compared, found);
        }

        Snapshot withWord(String other) {
            return new Snapshot(line, other, letterRule, endRule, place, looks, compared, found);
        }

        Snapshot withRules(boolean byLetter, boolean byEnd) {
            return new Snapshot(line, word, byLetter, byEnd, place, looks, compared, found);
        }

        boolean over() {
            return word.isEmpty() || place + word.length() > line.length();
        }

        int difference() {
            for (int i = word.length(); i-- > 0;) {
                if (line.charAt(place + i) != word.charAt(i)) {
                    return i;
                }
            }
            return -1;
        }

        Snapshot looked() {
            int at = difference();
            List<Integer> places = new ArrayList<>(found);
            int skip;
            if (at < 0) {
                places.add(place);
                skip = periodOf(word);
            } else {
                skip = skipBehind(at);
            }
            int letters = at < 0 ? word.length() : word.length() - at;
            return new Snapshot(line, word, letterRule, endRule, place + skip, looks + 1,
                    compared + letters, List.copyOf(places));
        }

        private int skipBehind(int at) {
            int byLetter = at - word.lastIndexOf(line.charAt(place + at));
            int byEnd = endSkipOf(word, at);
            if (letterRule && endRule) {
                return Math.max(1, Math.max(byLetter, byEnd));
            }
            return letterRule ? Math.max(1, byLetter) : endRule ? Math.max(1, byEnd) : 1;
        }

        Snapshot finished() {
            Snapshot last = this;
            while (!last.over()) {
                last = last.looked();
            }
            return last;
        }
    }

    static int periodOf(String word) {
        for (int p = 1; p <= word.length(); p++) {
            if (word.substring(p).equals(word.substring(0, word.length() - p))) {
                return p;
            }
        }
        return 0;
    }

    static int borderOf(String word) {
        for (int b = word.length() - 1; b > 0; b--) {
            if (word.endsWith(word.substring(0, b))) {
                return b;
            }
        }
        return 0;
    }

    static int endSkipOf(String word, int j) {
        int k = 1;
        while (!fits(word, j, k)) {
            k++;
        }
        return k;
    }

    private static boolean fits(String word, int j, int k) {
        for (int i = j + 1; i < word.length(); i++) {
            if (i - k >= 0 && word.charAt(i) != word.charAt(i - k)) {
                return false;
            }
        }
        return j - k < 0 || word.charAt(j) != word.charAt(j - k);
    }

    static int standing(String line, String word) {
        int count = 0;
        for (int s = 0; s < line.length(); s++) {
            if (!word.isEmpty() && line.startsWith(word, s)) {
                count++;
            }
        }
        return count;
    }

    private Snapshot now = new Snapshot("", "", true, true, 0, 0, 0, List.of());
    private final List<Snapshot> history = new ArrayList<>();
    private final Snapshot[] slots = new Snapshot[2];
    private String text = "";

    private void change(Snapshot next) {
        history.add(now);
        if (history.size() > 6) {
            history.remove(0);
        }
        now = next;
    }

    private static void place(boolean exists) {
        if (!exists) {
            throw new IndexOutOfBoundsException();
        }
    }

    private static void argument(boolean good) {
        if (!good) {
            throw new IllegalArgumentException();
        }
    }

    private static void state(boolean good) {
        if (!good) {
            throw new IllegalStateException();
        }
    }

    private static void letter(int letter) {
        argument(letter >= 0 && letter <= 25);
    }

    private static int index(String letters, int place) {
        place(place >= 0 && place < letters.length());
        return letters.charAt(place) - 'a';
    }

    int takeLine() {
        state(textError() == -1 && text.length() <= 60);
        change(now.withLine(text).anew());
        text = "";
        return now.line().length();
    }

    int takeWord() {
        state(textError() == -1 && text.length() <= 16);
        change(now.withWord(text).anew());
        text = "";
        return now.word().length();
    }

    int setRules(boolean byLetter, boolean byEnd) {
        int before = 0;
        before += now.letterRule() ? 1 : 0;
        before += now.endRule() ? 1 : 0;
        change(now.withRules(byLetter, byEnd).anew());
        return before;
    }

    int look() {
        state(!now.over());
        int before = now.place();
        change(now.looked());
        return now.place() - before;
    }

    int finish() {
        int before = now.looks();
        change(now.finished());
        return now.looks() - before;
    }

    int rewind() {
        int before = now.looks();
        change(now.anew());
        return before;
    }

    int setLetter(int place, int letter) {
        int before = index(now.line(), place);
        letter(letter);
        String line = now.line().substring(0, place) + (char) ('a' + letter)
                + now.line().substring(place + 1);
        change(now.withLine(line).anew());
        return before;
    }

    int lineLength() {
        return now.line().length();
    }

    int wordLength() {
        return now.word().length();
    }

    int lineLetter(int place) {
        return index(now.line(), place);
    }

    int wordLetter(int place) {
        return index(now.word(), place);
    }

    int place() {
        return now.place();
    }

    int isOver() {
        return now.over() ? 1 : 0;
    }

    int lookCount() {
        return now.looks();
    }

    int comparedCount() {
        return now.compared();
    }

    int foundCount() {
        return now.found().size();
    }

    int foundPlace(int number) {
        place(number >= 0 && number < now.found().size());
        return now.found().get(number);
    }

    /** Goes the way again and strikes the places that it looks at. */
    int skippedPlaces() {
        List<Integer> skipped = new ArrayList<>();
        for (int s = 0; s < now.place() && s + now.word().length() <= now.line().length(); s++) {
            skipped.add(s);
        }
        for (Snapshot past = now.anew(); past.looks() < now.looks(); past = past.looked()) {
            skipped.remove(Integer.valueOf(past.place()));
        }
        return skipped.size();
    }

    int lastPlaceOf(int letter) {
        letter(letter);
        return now.word().lastIndexOf('a' + letter);
    }

    int letterSkip(int place, int letter) {
        index(now.word(), place);
        letter(letter);
        int last = now.word().lastIndexOf('a' + letter);
        return last < 0 ? place + 1 : place - last;
    }

    int endSkip(int place) {
        index(now.word(), place);
        return endSkipOf(now.word(), place);
    }

    int border() {
        return borderOf(now.word());
    }

    int period() {
        return periodOf(now.word());
    }

    int occurrences() {
        return standing(now.line(), now.word());
    }

    int comparedWith(boolean byLetter, boolean byEnd) {
        return now.withRules(byLetter, byEnd).anew().finished().compared();
    }

    int differenceAt(int place) {
        place(place >= 0 && (long) place + now.word().length() <= now.line().length());
        state(!now.word().isEmpty());
        return new Snapshot(now.line(), now.word(), true, true, place, 0, 0, List.of()).difference();
    }

    int appendText(long characters) {
        String added = "";
        boolean ended = false;
        for (int shift = 0; shift < 64; shift += 8) {
            int code = (int) (characters >>> shift & 0xff);
            ended |= code == 0;
            argument(ended ? code == 0 : code >= 33 && code <= 126);
            added = ended ? added : (char) code + added;
        }
        argument(!added.isEmpty());
        state(text.length() + added.length() <= 80);
        text += added;
        return text.length();
    }

    int clearText() {
        int before = text.length();
        text = "";
        return before;
    }

    int textLength() {
        return text.length();
    }

    int textError() {
        for (int i = 0; i < text.length(); i++) {
            if ("abcdefghijklmnopqrstuvwxyz".indexOf(text.charAt(i)) < 0) {
                return i;
            }
        }
        return -1;
    }

    int undo() {
        state(!history.isEmpty());
        now = history.remove(history.size() - 1);
        return history.size();
    }

    int undoCount() {
        return history.size();
    }

    int saveState(int slot) {
        place(slot == 0 || slot == 1);
        slots[slot] = now;
        return now.line().length();
    }

    int loadState(int slot) {
        place(slot == 0 || slot == 1);
        state(slots[slot] != null);
        change(slots[slot]);
        return now.line().length();
    }
}
