/** Promise 3: how many characters the text has. */
public final class Promise03TypedTest {
    public static void main(String[] args) {
        Desk desk = new Desk();
        Due.same("at first", desk.typed(), 0);
        desk.type("add cat\n");
        Due.same("the line's end counts", desk.typed(), 8);
        desk.type("\n\n  ");
        Due.same("more comes behind", desk.typed(), 12);
        desk.wipe();
        Due.same("wipe leaves the text", desk.typed(), 12);
        desk.run();
        Due.same("a run empties the text", desk.typed(), 0);
        desk.type("a");
        Due.same("typed anew", desk.typed(), 1);
        Due.end();
    }
}
