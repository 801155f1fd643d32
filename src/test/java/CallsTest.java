/** The document's 'What it is': how many calls of an object are promised an answer. */
public final class CallsTest {
    private static final int CALLS = 512;

    public static void main(String[] args) {
        Due.sentence("An object is used for at most 512 calls after it has been made");
        theLastRead();
        theLastRun();
        theLastRefusal();
        Due.end();
    }

    private static void theLastRead() {
        Desk desk = new Desk();
        desk.type("add cat");
        desk.run();
        for (int i = desk.calls(); i < CALLS - 3; i++) {
            Due.same("entries() as call " + i, desk.entries(), 1);
        }
        Due.same("size() as call 510", desk.size(), 3);
        Due.same("output(1) as call 511", desk.output(1), (int) 'k');
        Due.same("output(2) as call 512", desk.output(2), 10);
        Due.same("the calls", desk.calls(), CALLS);
    }

    private static void theLastRun() {
        Desk desk = new Desk();
        int lines = 0;
        for (int i = 0; i < CALLS / 2; i++) {
            desk.type("add a/A\ndrop a");
            lines += desk.run();
        }
        Due.same("the calls", desk.calls(), CALLS);
        Due.same("lines of 256 runs", lines, CALLS);
    }

    private static void theLastRefusal() {
        Desk desk = new Desk();
        desk.type("x".repeat(2048));
        for (int i = desk.calls(); i < CALLS - 2; i++) {
            Due.same("a character too many as call " + i, desk.typeThrows(0, 0, 0, 'x'), true);
        }
        Due.same("typed() as call 511", desk.typed(), 2048);
        Due.same("run() as call 512", desk.run(), 1);
        Due.same("the calls", desk.calls(), CALLS);
    }
}
