/** All that an object tells without being changed, as one text. */
final class Picture {
    private Picture() {
    }

    static String of(BackwardSearch x) {
        return ofState(x) + " text " + x.textLength() + " error " + x.textError()
                + " undo " + x.undoCount();
    }

    static String ofState(BackwardSearch x) {
        return "line " + line(x) + " word " + word(x) + " found " + found(x)
                + " place " + x.place() + " over " + x.isOver() + " looks " + x.lookCount()
                + " compared " + x.comparedCount() + " skipped " + x.skippedPlaces();
    }

    static String line(BackwardSearch x) {
        StringBuilder letters = new StringBuilder();
        for (int i = 0; i < x.lineLength(); i++) {
            letters.append((char) ('a' + x.lineLetter(i)));
        }
        return letters.toString();
    }

    static String word(BackwardSearch x) {
        StringBuilder letters = new StringBuilder();
        for (int i = 0; i < x.wordLength(); i++) {
            letters.append((char) ('a' + x.wordLetter(i)));
        }
        return letters.toString();
    }

    static String found(BackwardSearch x) {
        StringBuilder places = new StringBuilder("[");
        for (int i = 0; i < x.foundCount(); i++) {
            places.append(i == 0 ? "" : " ").append(x.foundPlace(i));
        }
        return places.append("]").toString();
    }
}
