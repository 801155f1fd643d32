/** Promise 6: character i of the output, or IndexOutOfBoundsException. */
public final class Promise06OutputTest {
    public static void main(String[] args) {
        eachCharacter();
        noneBesideTheOutput();
        noneBehindWipe();
        ofAFullOutput();
        Due.end();
    }

    private static void eachCharacter() {
        Due.sentence("Character i of the output.");
        Desk desk = new Desk();
        desk.type("add cat\nlook c");
        desk.run();
        Due.same("output", desk.output(), "ok\ncat\n");
        Due.same("output(0)", desk.output(0), (int) 'o');
        Due.same("output(2), a line's end", desk.output(2), 10);
        Due.same("output(6), the last", desk.output(6), 10);
        Due.same("output(6) once more", desk.output(6), 10);
    }

    private static void noneBesideTheOutput() {
        Due.sentence("Character i of the output. IndexOutOfBoundsException.");
        Desk desk = new Desk();
        none(desk, -1, 0, 1, 5999, 6000, Integer.MAX_VALUE, Integer.MIN_VALUE);
        desk.type("add cat\nlook c");
        none(desk, 0);
        desk.run();
        none(desk, -1, 7, 8, 5999, 6000, 6001, Integer.MAX_VALUE, Integer.MIN_VALUE);
        Due.same("output", desk.output(), "ok\ncat\n");
    }

    private static void noneBehindWipe() {
        Due.sentence("Character i of the output. IndexOutOfBoundsException.");
        Desk desk = new Desk();
        desk.type("add cat\nlook c");
        desk.run();
        desk.wipe();
        none(desk, 0, 6);
        desk.type("count");
        desk.run();
        Due.same("printed anew", desk.output(), "1 0 0\n");
        none(desk, 6);
    }

    private static void ofAFullOutput() {
        Due.sentence("Character i of the output. IndexOutOfBoundsException.");
        Desk full = new Desk();
        full.type("?\n".repeat(1000));
        full.run();
        full.type("count\n".repeat(300));
        full.run();
        full.type("add cat\n".repeat(100));
        full.run();
        Due.same("output(3999)", full.output(3999), 10);
        Due.same("output(4000)", full.output(4000), (int) '0');
        Due.same("output(5799)", full.output(5799), 10);
        Due.same("output(5800)", full.output(5800), (int) 'o');
        Due.same("output(5999)", full.output(5999), (int) 'n');
        none(full, 6000, 6001, -1);
    }

    private static void none(Desk desk, int... places) {
        for (int place : places) {
            Due.same("output(" + place + ")", desk.output(place), -1);
        }
    }
}
