/** Promise 4: run does all lines, tells how many, and empties the text; how lines and pieces are parted. */
public final class Promise04RunTest {
    public static void main(String[] args) {
        lines("", 0, "");
        lines("count", 1, "0 0 0\n");
        lines("count\n", 1, "0 0 0\n");
        lines("count\ncount", 2, "0 0 0\n0 0 0\n");
        lines("\n", 1, "");
        lines("\n\n\n", 3, "");
        lines(" ", 1, "");
        lines("\n ", 2, "");
        lines("count\n\n   \ncount\n", 4, "0 0 0\n0 0 0\n");
        lines("   count", 1, "0 0 0\n");
        lines("count    ", 1, "0 0 0\n");
        lines("  add   cat   \n  look     c  ", 2, "ok\ncat\n");
        lines("add cat\nadd dog\nadd cat\ndrop dog\ncount\n", 5, "ok\nok\nagain\nok\n1 0 0\n");

        lines("add\tcat", 1, "? 1\n");
        lines("count\r\n", 1, "? 1\n");
        lines("add cat\r\n", 1, "? 5\n");
        lines("\t", 1, "? 1\n");
        lines("\u00ff", 1, "? 1\n");

        linesAcrossRuns();
        textOfLineEnds();
        Due.end();
    }

    private static void lines(String text, int count, String printed) {
        Desk desk = new Desk();
        desk.type(text);
        Due.same("run() of '" + text + "'", desk.run(), count);
        Due.same("what '" + text + "' prints", desk.output(), printed);
        Due.same("typed() behind '" + text + "'", desk.typed(), 0);
        Due.same("run() once more", desk.run(), 0);
        Due.same("which prints nothing", desk.size(), printed.length());
    }

    private static void linesAcrossRuns() {
        Desk desk = new Desk();
        desk.type("add ca").type("t\nadd d");
        Due.same("a line typed in parts", desk.run(), 2);
        desk.type("og\n");
        Due.same("a run ends the last line", desk.run(), 1);
        Due.same("output", desk.output(), "ok\nok\n? 1\n");
        desk.wipe().says("look d", "d");
    }

    private static void textOfLineEnds() {
        Desk desk = new Desk();
        desk.type("\n".repeat(2048));
        Due.same("2048 lines", desk.run(), 2048);
        Due.same("without output", desk.size(), 0);
    }
}
