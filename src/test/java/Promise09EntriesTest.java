/** Promise 9: how many entries there are. */
public final class Promise09EntriesTest {
    public static void main(String[] args) {
        behindEachLine();
        fromNoneTo300();
        Due.end();
    }

    private static void behindEachLine() {
        Due.sentence("How many entries there are.");
        Desk desk = new Desk();
        behind(desk, "add cat", 1);
        behind(desk, "add cat/A", 1);
        behind(desk, "add dog", 2);
        behind(desk, "add Dog", 2);
        behind(desk, "prefix A 0 un 0", 2);
        behind(desk, "suffix A 0 s 0", 2);
        behind(desk, "drop cow", 2);
        behind(desk, "drop cats", 2);
        behind(desk, "drop cat", 1);
        behind(desk, "clear x", 1);
        behind(desk, "check cat dog cow", 1);
        behind(desk, "clear", 0);
        behind(desk, "drop dog", 0);
        behind(desk, "add dog", 1);
        desk.type("add cow");
        Due.same("entries() before the run", desk.entries(), 1);
    }

    private static void fromNoneTo300() {
        Due.sentence("How many entries there are.");
        Due.same("entries() of a new desk", new Desk().entries(), 0);
        for (int count : new int[] {1, 2, 10, 11, 255, 256, 299, 300}) {
            Due.same("entries() of " + count, Desk.withEntries(count).entries(), count);
        }
        Desk full = Desk.withEntries(300);
        behind(full, "add zz", 300);
        behind(full, "add aa/A", 300);
        behind(full, "drop zz", 300);
        behind(full, "drop aa", 299);
        behind(full, "add zz", 300);
        behind(full, "clear", 0);
    }

    private static void behind(Desk desk, String line, int want) {
        desk.given(line);
        Due.same("entries() behind '" + line + "'", desk.entries(), want);
    }
}
