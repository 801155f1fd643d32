/** Promise 8: the output is empty, and nothing is lost; all else stays. */
public final class Promise08WipeTest {
    public static void main(String[] args) {
        anEmptyOutput();
        theOutputAlone();
        aFullOutput();
        Due.end();
    }

    private static void anEmptyOutput() {
        Due.sentence("The output is empty, and nothing is LOST.");
        Desk desk = new Desk();
        desk.wipe();
        desk.wipe();
        Due.same("size()", desk.size(), 0);
        Due.same("lost()", desk.lost(), 0);
        Due.same("output(0)", desk.output(0), -1);
    }

    private static void theOutputAlone() {
        Due.sentence("The output is empty, and nothing is LOST.");
        Desk desk = new Desk();
        desk.type("add cat/S\nprefix S 0 un 0\nsuffix S 0 s 0");
        desk.run();
        desk.type("look c");
        Due.same("size()", desk.size(), 9);
        desk.wipe();
        Due.same("size() behind wipe()", desk.size(), 0);
        Due.same("output(0) behind wipe()", desk.output(0), -1);
        Due.same("the text stays", desk.typed(), 6);
        Due.same("the entries stay", desk.entries(), 1);
        Due.same("the prefixes stay", desk.rules(true), 1);
        Due.same("the suffixes stay", desk.rules(false), 1);
        Due.same("run()", desk.run(), 1);
        Due.same("output begins anew", desk.output(), "cat\n");
        desk.wipe().says("forms cat", "cat cats uncat uncats");
    }

    private static void aFullOutput() {
        Due.sentence("The output is empty, and nothing is LOST.");
        Desk full = new Desk();
        for (int i = 0; i < 2; i++) {
            full.type("?\n".repeat(1000));
            full.run();
        }
        Due.same("lost()", full.lost(), 2000);
        full.wipe();
        Due.same("lost() behind wipe()", full.lost(), 0);
        Due.same("size() behind wipe()", full.size(), 0);
        full.type("count");
        full.run();
        Due.same("there is room again", full.output(), "0 0 0\n");
        Due.same("and nothing lost", full.lost(), 0);
        full.type("?\n".repeat(1000));
        full.run();
        Due.same("room for as much as before", full.size(), 4006);
    }
}
