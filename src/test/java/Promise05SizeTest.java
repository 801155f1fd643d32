/** Promise 5: how many characters the output has. */
public final class Promise05SizeTest {
    public static void main(String[] args) {
        ofWhatIsPrinted();
        neverAbove6000();
        Due.end();
    }

    private static void ofWhatIsPrinted() {
        Due.sentence("How many characters the output has.");
        Desk desk = new Desk();
        Due.same("size() of none", desk.size(), 0);
        desk.type("add cat\n");
        Due.same("typing prints nothing", desk.size(), 0);
        desk.run();
        Due.same("a line and its end", desk.size(), 3);
        desk.type("look c\n\ncount");
        desk.run();
        Due.same("more comes behind", desk.size(), 3 + 4 + 6);
        desk.wipe();
        Due.same("wiped", desk.size(), 0);
    }

    private static void neverAbove6000() {
        Due.sentence("How many characters the output has.");
        Desk full = new Desk();
        for (int i = 1; i <= 3; i++) {
            full.type("?\n".repeat(1000));
            full.run();
            Due.same("size() of " + i * 1000 + " lines", full.size(), Math.min(i * 4000, 6000));
        }
        full.wipe();
        Due.same("wiped", full.size(), 0);
    }
}
