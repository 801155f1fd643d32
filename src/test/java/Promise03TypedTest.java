/** Promise 3: how many characters the text has. */
public final class Promise03TypedTest {
    public static void main(String[] args) {
        fromNoneToFull();
        ofTheTextAlone();
        Due.end();
    }

    private static void fromNoneToFull() {
        Due.sentence("How many characters the text has.");
        Desk desk = new Desk();
        Due.same("typed() of none", desk.typed(), 0);
        for (int i = 1; i <= 128; i++) {
            desk.type("0123456789abcde\n");
            Due.same("typed() behind type " + i, desk.typed(), 16 * i);
        }
        desk.run();
        Due.same("typed() behind a run", desk.typed(), 0);
    }

    private static void ofTheTextAlone() {
        Due.sentence("How many characters the text has.");
        Desk desk = new Desk();
        desk.type("add cat\n");
        Due.same("the line's end counts", desk.typed(), 8);
        desk.type("\n\n  ");
        Due.same("so do line ends and spaces alone", desk.typed(), 12);
        desk.wipe();
        Due.same("wipe leaves the text", desk.typed(), 12);
        desk.run();
        Due.same("a run empties the text", desk.typed(), 0);
        desk.type("a");
        Due.same("typed anew", desk.typed(), 1);
    }
}
