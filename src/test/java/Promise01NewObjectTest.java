/** Promise 1: a new object is empty, and objects share nothing. */
public final class Promise01NewObjectTest {
    public static void main(String[] args) {
        everythingIsEmpty();
        linesFindNothing();
        besideAnother();
        Due.end();
    }

    private static void everythingIsEmpty() {
        Due.sentence("No entries, no rules, no text, no output.");
        empty(new Desk());
    }

    private static void linesFindNothing() {
        Due.sentence("No entries, no rules, no text, no output.");
        new Desk().says("count", "0 0 0").says("check a", "a").says("look a", "-").says("why a", "-")
            .says("forms a", "-").says("drop a", "none").says("clear", "ok");
    }

    private static void besideAnother() {
        Due.sentence("No entries, no rules, no text, no output.");
        Desk full = new Desk();
        full.given("add cat/S", "suffix S 0 s 0", "prefix S 0 un 0").type("count");
        full.run();
        full.type("rest");
        empty(new Desk());
        Due.same("the other's entries", full.entries(), 1);
        Due.same("the other's output", full.output(), "1 1 1\n");
        Due.same("the other's text", full.typed(), 4);
    }

    private static void empty(Desk desk) {
        Due.same("typed()", desk.typed(), 0);
        Due.same("size()", desk.size(), 0);
        Due.same("output(0)", desk.output(0), -1);
        Due.same("lost()", desk.lost(), 0);
        Due.same("entries()", desk.entries(), 0);
        Due.same("rules(true)", desk.rules(true), 0);
        Due.same("rules(false)", desk.rules(false), 0);
        Due.same("run()", desk.run(), 0);
        Due.same("size() behind run()", desk.size(), 0);
    }
}
