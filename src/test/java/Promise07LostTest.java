/** Promise 7: how many characters of the output were lost. */
public final class Promise07LostTest {
    public static void main(String[] args) {
        noneUpTo6000();
        allBeyond6000();
        ofManyLongLines();
        Due.end();
    }

    private static void noneUpTo6000() {
        Due.sentence("How many characters of the output were LOST.");
        Desk desk = new Desk();
        Due.same("lost() of none", desk.lost(), 0);
        desk.type("?\n".repeat(1000));
        desk.run();
        Due.same("lost() at 1000 lines", desk.lost(), 0);
        desk.type("?\n".repeat(500));
        desk.run();
        Due.same("size() at 1500 lines", desk.size(), 6000);
        Due.same("lost() at 1500 lines", desk.lost(), 0);
        desk.type("?");
        Due.same("typing loses nothing", desk.lost(), 0);
        desk.run();
        Due.same("lost() at 1501 lines", desk.lost(), 4);
    }

    private static void allBeyond6000() {
        Due.sentence("How many characters of the output were LOST.");
        Desk desk = new Desk();
        desk.type("?\n".repeat(1000));
        desk.run();
        desk.type("?\n".repeat(499));
        desk.run();
        desk.type("count");
        desk.run();
        Due.same("lost() of a line that fits in part", desk.lost(), 2);
        desk.type("add cat\n\nadd cat");
        desk.run();
        Due.same("lost() of lines that do not fit", desk.lost(), 2 + 3 + 6);
        Due.same("size()", desk.size(), 6000);
        desk.wipe();
        Due.same("lost() behind wipe()", desk.lost(), 0);
        desk.type("?");
        desk.run();
        Due.same("lost() when there is room again", desk.lost(), 0);
        Due.same("output", desk.output(), "? 1\n");
    }

    private static void ofManyLongLines() {
        Due.sentence("How many characters of the output were LOST.");
        Desk desk = new Desk();
        StringBuilder lines = new StringBuilder();
        for (int i = 0; i < 90; i++) {
            lines.append("add aaaaaaaaaaaaaa").append((char) ('a' + i / 26)).append((char) ('a' + i % 26)).append('\n');
        }
        desk.given(lines.toString());
        desk.type("look a\n".repeat(290));
        desk.run();
        Due.same("size()", desk.size(), 6000);
        Due.same("lost()", desk.lost(), 290 * 90 * 17 - 6000);
    }
}
