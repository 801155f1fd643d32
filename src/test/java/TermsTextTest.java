/** Terms: the text, its lines, and their pieces. */
public final class TermsTextTest {
    public static void main(String[] args) {
        atMost2048Characters();
        eachEndedByACharacter10();
        theLastOnePerhapsNot();
        runningEmptiesIt();
        piecesWithSpaces();
        onlySpacesPartPieces();
        eachLineThatHasPiecesPrintsOne();
        Due.end();
    }

    private static void lines(String text, int count, String printed) {
        Desk desk = new Desk();
        desk.type(text);
        Due.same("run() of '" + text + "'", desk.run(), count);
        Due.same("what '" + text + "' prints", desk.output(), printed);
        Due.same("typed() behind '" + text + "'", desk.typed(), 0);
        Due.same("run() once more", desk.run(), 0);
        Due.same("which prints nothing", desk.size(), printed.length());
    }

    private static void atMost2048Characters() {
        Due.sentence("THE TEXT is typed, at most 2048 characters");
        Desk desk = new Desk();
        desk.type(" ".repeat(2047));
        Due.same("typed() of 2047", desk.typed(), 2047);
        desk.type("x");
        Due.same("typed() of 2048", desk.typed(), 2048);
        Due.same("the 2049th", desk.typeThrows('x', 0, 0, 0), true);
        Due.same("typed() behind the 2049th", desk.typed(), 2048);
        Due.same("run()", desk.run(), 1);
        Due.same("the last character of a full text is in its line", desk.output(), "? 2048\n");

        Desk ends = new Desk();
        ends.type("\n".repeat(2048));
        Due.same("run() of 2048 line ends", ends.run(), 2048);
        Due.same("which print nothing", ends.size(), 0);

        Desk pieces = new Desk();
        pieces.type("x ".repeat(1024));
        Due.same("run() of 1024 pieces", pieces.run(), 1);
        Due.same("what they print", pieces.output(), "? 1\n");
    }

    private static void eachEndedByACharacter10() {
        Due.sentence("running does its LINES, each ended by a character 10");
        lines("count\ncount\n", 2, "0 0 0\n0 0 0\n");
        lines("add cat\nadd dog\nadd cat\ndrop dog\ncount\n", 5, "ok\nok\nagain\nok\n1 0 0\n");
        lines("\n", 1, "");
        lines("\n\n\n", 3, "");
        lines("count\n\n   \ncount\n", 4, "0 0 0\n0 0 0\n");
        lines("count\rcount\n", 1, "? 1\n");
        lines("count\u000bcount\n", 1, "? 1\n");
        lines("count\u0085count\n", 1, "? 1\n");

        Desk desk = new Desk();
        desk.type("add ca").type("t\nadd d").type("og\n");
        Due.same("lines typed in parts", desk.run(), 2);
        Due.same("their output", desk.output(), "ok\nok\n");
        desk.wipe().says("look d", "dog");
    }

    private static void theLastOnePerhapsNot() {
        Due.sentence("(the last one perhaps not; then it is one if it has a character)");
        lines("", 0, "");
        lines("count", 1, "0 0 0\n");
        lines("count\n", 1, "0 0 0\n");
        lines("count\ncount", 2, "0 0 0\n0 0 0\n");
        lines("\ncount", 2, "0 0 0\n");
        lines("\nx", 2, "? 1\n");
        lines(" ", 1, "");
        lines("\n ", 2, "");
        lines("count\n ", 2, "0 0 0\n");
        lines("count\nadd", 2, "0 0 0\n? 4\n");
    }

    private static void runningEmptiesIt() {
        Due.sentence("and empties it.");
        Desk desk = new Desk();
        desk.type("add ca\nadd d");
        Due.same("run()", desk.run(), 2);
        Due.same("typed() behind it", desk.typed(), 0);
        Due.same("run() of no text", desk.run(), 0);
        desk.type("og\n");
        Due.same("run() of what would have gone on", desk.run(), 1);
        Due.same("output", desk.output(), "ok\nok\n? 1\n");
        desk.wipe().says("look d", "d");

        Desk full = new Desk();
        full.type("x".repeat(2048));
        full.run();
        full.type("y".repeat(2048));
        Due.same("typed() when filled once more", full.typed(), 2048);
    }

    private static void piecesWithSpaces() {
        Due.sentence("A line is of PIECES, with one space (32) or more before, between and behind them.");
        lines("   count", 1, "0 0 0\n");
        lines("count    ", 1, "0 0 0\n");
        lines("  add   cat   \n  look     c  ", 2, "ok\ncat\n");
        lines(" suffix  A   0  s 0 \n  count ", 2, "ok\n0 0 1\n");
        lines(" check  b   a ", 1, "a b\n");
        lines("add cat\nlook c\n", 2, "ok\ncat\n");
        lines("addcat\nadd cat", 2, "? 1\nok\n");
    }

    private static void onlySpacesPartPieces() {
        Due.sentence("with one space (32) or more before, between and behind them");
        lines("add\tcat", 1, "? 1\n");
        lines("\tcount", 1, "? 1\n");
        lines("count\t", 1, "? 1\n");
        lines("count\r\n", 1, "? 1\n");
        lines("add cat\r\n", 1, "? 5\n");
        lines("add cat\u00a0", 1, "? 5\n");
        lines("count \u001f", 1, "? 7\n");
        lines("count !", 1, "? 7\n");
        lines("\t", 1, "? 1\n");
        lines("\u00ff", 1, "? 1\n");
        lines(" \u0001", 1, "? 2\n");
    }

    private static void eachLineThatHasPiecesPrintsOne() {
        Due.sentence("Each line that has pieces prints one line into the OUTPUT, which ends with a character 10");
        lines("\n\n \n  \n   ", 5, "");
        lines("x\n\ny z", 3, "? 1\n? 1\n");
        String[] all = {"add a", "add a/A", "drop b", "prefix A 0 0 0", "suffix A 0 0 0", "check a", "check b c",
            "look a", "look b", "why a", "why b", "forms a", "forms b", "count", "drop a", "clear", "bogus", "add"};
        Desk desk = new Desk();
        for (String line : all) {
            desk.type(line);
            desk.run();
            String printed = desk.output();
            Due.same("the end of what '" + line + "' prints", printed.indexOf('\n'), printed.length() - 1);
            Due.same("'" + line + "' prints something", printed.length() > 1, true);
            desk.wipe();
        }
    }
}
