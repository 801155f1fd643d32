/** Promise 4: run does all lines and tells how many; what lines are and do is tested by the tests of the Terms. */
public final class Promise04RunTest {
    public static void main(String[] args) {
        allLinesAreDone();
        howManyThereWere();
        thoseWithoutPiecesToo();
        noLines();
        asManyLinesAsTheTextHolds();
        Due.end();
    }

    private static void allLinesAreDone() {
        Due.sentence("Does all lines of the text");
        Desk desk = new Desk();
        desk.type("add b\nbogus\nadd a\n\ndrop b\nadd c");
        Due.same("run()", desk.run(), 6);
        Due.same("output", desk.output(), "ok\n? 1\nok\nok\nok\n");
        Due.same("entries()", desk.entries(), 2);
        Due.same("typed()", desk.typed(), 0);
    }

    private static void howManyThereWere() {
        Due.sentence("how many there were (those without pieces, too)");
        Desk desk = new Desk();
        runs(desk, "count", 1);
        runs(desk, "count\n", 1);
        runs(desk, "count\nbogus", 2);
        runs(desk, "a\nb\nc\n", 3);
        runs(desk, "a\nb\nc\nd", 4);
    }

    private static void thoseWithoutPiecesToo() {
        Due.sentence("(those without pieces, too)");
        Desk desk = new Desk();
        runs(desk, "\n", 1);
        runs(desk, " ", 1);
        runs(desk, " \n", 1);
        runs(desk, "\n ", 2);
        runs(desk, "\n\n", 2);
        runs(desk, "  \n\n  \n  ", 4);
        Due.same("size()", desk.size(), 0);
        runs(desk, "\ncount\n\n", 3);
    }

    private static void noLines() {
        Due.sentence("Does all lines of the text: how many there were");
        Desk desk = new Desk();
        Due.same("run() of no text", desk.run(), 0);
        runs(desk, "count", 1);
        Due.same("run() of no text more", desk.run(), 0);
        Due.same("size()", desk.size(), 6);
    }

    private static void asManyLinesAsTheTextHolds() {
        Due.sentence("Does all lines of the text: how many there were");
        runs(new Desk(), "\n".repeat(2048), 2048);
        runs(new Desk(), "\n".repeat(2047) + " ", 2048);
        runs(new Desk(), "x\n".repeat(1024), 1024);
        runs(new Desk(), "x".repeat(2048), 1);
    }

    private static void runs(Desk desk, String text, int lines) {
        desk.type(text);
        Due.same("run() of '" + text + "'", desk.run(), lines);
    }
}
