/** Promise 9: how many entries there are. */
public final class Promise09EntriesTest {
    public static void main(String[] args) {
        Desk desk = new Desk();
        behind(desk, "add cat", 1);
        behind(desk, "add cat/A", 1);
        behind(desk, "add dog", 2);
        behind(desk, "add Dog", 2);
        behind(desk, "prefix A 0 un 0", 2);
        behind(desk, "suffix A 0 s 0", 2);
        behind(desk, "drop cow", 2);
        behind(desk, "drop cats", 2);
        behind(desk, "drop cat", 1);
        behind(desk, "clear x", 1);
        behind(desk, "check cat dog cow", 1);
        behind(desk, "clear", 0);
        behind(desk, "drop dog", 0);
        behind(desk, "add dog", 1);
        desk.type("add cow");
        Due.same("entries() before the run", desk.entries(), 1);
        Due.end();
    }

    private static void behind(Desk desk, String line, int want) {
        desk.given(line);
        Due.same("entries() behind '" + line + "'", desk.entries(), want);
    }
}
