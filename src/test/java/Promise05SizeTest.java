/** Promise 5: how many characters the output has. */
public final class Promise05SizeTest {
    public static void main(String[] args) {
        Desk desk = new Desk();
        Due.same("at first", desk.size(), 0);
        desk.type("add cat\n");
        Due.same("typing prints nothing", desk.size(), 0);
        desk.run();
        Due.same("a line and its end", desk.size(), 3);
        desk.type("look c\n\ncount");
        desk.run();
        Due.same("more comes behind", desk.size(), 3 + 4 + 6);
        desk.wipe();
        Due.same("wiped", desk.size(), 0);

        Desk full = new Desk();
        for (int i = 0; i < 3; i++) {
            full.type("?\n".repeat(1000));
            full.run();
            Due.same("output of " + (i + 1) * 1000 + " lines", full.size(), Math.min((i + 1) * 4000, 6000));
        }
        Due.end();
    }
}
