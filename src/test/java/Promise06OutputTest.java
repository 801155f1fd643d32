/** Promise 6: character i of the output, or IndexOutOfBoundsException. */
public final class Promise06OutputTest {
    public static void main(String[] args) {
        Desk desk = new Desk();
        wrong(desk, -1, 0, 1, Integer.MAX_VALUE, Integer.MIN_VALUE);
        desk.type("add cat\nlook c");
        wrong(desk, 0);
        desk.run();
        Due.same("output", desk.output(), "ok\ncat\n");
        Due.same("first", desk.output(0), (int) 'o');
        Due.same("a line's end", desk.output(2), 10);
        Due.same("last", desk.output(6), 10);
        wrong(desk, -1, 7, 8, 5999, 6000, 6001, Integer.MAX_VALUE, Integer.MIN_VALUE);
        Due.same("a call that throws changes nothing", desk.output(), "ok\ncat\n");
        desk.wipe();
        wrong(desk, 0, 6);
        desk.type("count");
        desk.run();
        Due.same("printed anew", desk.output(), "1 0 0\n");
        wrong(desk, 6);

        Desk full = new Desk();
        full.type("?\n".repeat(1000));
        full.run();
        full.type("count\n".repeat(300));
        full.run();
        full.type("add cat\n".repeat(100));
        full.run();
        Due.same("character 3999", full.output(3999), 10);
        Due.same("character 4000", full.output(4000), (int) '0');
        Due.same("character 5799", full.output(5799), 10);
        Due.same("character 5800", full.output(5800), (int) 'o');
        Due.same("character 5999", full.output(5999), (int) 'n');
        wrong(full, 6000, 6001, -1);
        Due.end();
    }

    private static void wrong(Desk desk, int... places) {
        for (int place : places) {
            Due.same("output(" + place + ")", desk.output(place), -1);
        }
    }
}
