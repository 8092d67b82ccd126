/** All that an object tells without being changed, as one text. */
final class Picture {
    private Picture() {
    }

    static String of(BackwardSearch x) {
        return ofState(x) + " text " + x.textLength() + " error " + x.textError()
                + " undo " + x.undoCount();
    }

    static String ofState(BackwardSearch x) {
        return "line " + line(x) + " word " + word(x) + " " + ofSearch(x);
    }

    static String ofSearch(BackwardSearch x) {
        return "found " + found(x) + " place " + x.place() + " over " + x.isOver()
                + " looks " + x.lookCount() + " compared " + x.comparedCount()
                + " skipped " + x.skippedPlaces();
    }

    static String line(BackwardSearch x) {
        StringBuilder letters = new StringBuilder();
        int length = x.lineLength();
        for (int place = 0; place < length; place++) {
            letters.append((char) ('a' + x.lineLetter(place)));
        }
        return letters.toString();
    }

    static String word(BackwardSearch x) {
        StringBuilder letters = new StringBuilder();
        int length = x.wordLength();
        for (int place = 0; place < length; place++) {
            letters.append((char) ('a' + x.wordLetter(place)));
        }
        return letters.toString();
    }

    static String found(BackwardSearch x) {
        StringBuilder places = new StringBuilder("[");
        int count = x.foundCount();
        for (int number = 0; number < count; number++) {
            places.append(number == 0 ? "" : " ").append(x.foundPlace(number));
        }
        return places.append("]").toString();
    }
}
