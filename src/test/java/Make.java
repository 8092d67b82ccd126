/** Makes searches and the numbers that stand for characters. */
final class Make {
    private Make() {
    }

    static BackwardSearch search(String line, String word) {
        BackwardSearch x = new BackwardSearch();
        append(x, line);
        x.takeLine();
        append(x, word);
        x.takeWord();
        return x;
    }

    static void append(BackwardSearch x, String text) {
        for (int from = 0; from < text.length(); from += 8) {
            x.appendText(packed(text.substring(from, Math.min(from + 8, text.length()))));
        }
    }

    static long packed(String characters) {
        long number = 0;
        for (int i = 0; i < characters.length(); i++) {
            number = number << 8 | characters.charAt(i);
        }
        return number;
    }
}
