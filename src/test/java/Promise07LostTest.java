/** Promise 7: how many characters of the output were lost, one by one, beyond 6000. */
public final class Promise07LostTest {
    public static void main(String[] args) {
        Desk desk = new Desk();
        Due.same("at first", desk.lost(), 0);
        desk.type("?\n".repeat(1000));
        desk.run();
        desk.type("?\n".repeat(499));
        desk.run();
        Due.same("size at 1499 lines", desk.size(), 5996);
        Due.same("lost at 1499 lines", desk.lost(), 0);
        desk.type("count");
        desk.run();
        Due.same("size when a line fits in part", desk.size(), 6000);
        Due.same("lost of a line that fits in part", desk.lost(), 2);
        Due.same("the part's first", desk.output(5996), (int) '0');
        Due.same("the part's last", desk.output(5999), 32);
        desk.type("add cat\n\nadd cat");
        desk.run();
        Due.same("lost of lines that do not fit", desk.lost(), 2 + 3 + 6);
        Due.same("which are done all the same", desk.entries(), 1);
        Due.same("size()", desk.size(), 6000);
        desk.type("?");
        Due.same("typing loses nothing", desk.lost(), 11);
        desk.wipe();
        Due.same("wiped", desk.lost(), 0);
        desk.run();
        Due.same("printing behind wipe", desk.output(), "? 1\n");
        Due.same("which loses nothing", desk.lost(), 0);

        exactly();
        longLines();
        Due.end();
    }

    private static void exactly() {
        Desk desk = new Desk();
        desk.type("?\n".repeat(1000));
        desk.run();
        desk.type("?\n".repeat(500));
        desk.run();
        Due.same("size at 1500 lines", desk.size(), 6000);
        Due.same("lost at 1500 lines", desk.lost(), 0);
        desk.type("\n  \n");
        desk.run();
        Due.same("lines that print nothing", desk.lost(), 0);
        desk.type("x");
        desk.run();
        Due.same("a line more", desk.lost(), 4);
    }

    private static void longLines() {
        Desk desk = new Desk();
        StringBuilder lines = new StringBuilder();
        for (int i = 0; i < 90; i++) {
            lines.append("add aaaaaaaaaaaaaa").append((char) ('a' + i / 26)).append((char) ('a' + i % 26)).append('\n');
        }
        desk.given(lines.toString());
        desk.type("look a\n".repeat(290));
        desk.run();
        Due.same("size()", desk.size(), 6000);
        Due.same("lost()", desk.lost(), 290 * 90 * 17 - 6000);
    }
}
