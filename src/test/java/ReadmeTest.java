/** The example of README.md, call by call. */
public final class ReadmeTest {
    public static void main(String[] args) {
        Checks checks = new Checks("ReadmeTest");
        BackwardSearch x = new BackwardSearch();
        checks.due("appendText banana", x.appendText(0x62616e616e61L), 6);
        checks.due("takeLine", x.takeLine(), 6);
        checks.due("the text behind takeLine", x.textLength(), 0);
        checks.due("appendText ana", x.appendText(0x616e61L), 3);
        checks.due("takeWord", x.takeWord(), 3);
        checks.due("look", x.look(), 1);
        checks.due("finish", x.finish(), 2);
        checks.due("foundCount", x.foundCount(), 2);
        checks.due("the first found place", x.foundPlace(0), 1);
        checks.due("the second found place", x.foundPlace(1), 3);
        checks.due("undo", x.undo(), 3);
        checks.due("place behind undo", x.place(), 1);
        checks.end();
    }
}
