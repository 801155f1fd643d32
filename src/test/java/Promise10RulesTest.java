/** Promise 10: how many prefixes, or else suffixes there are. */
public final class Promise10RulesTest {
    public static void main(String[] args) {
        behindEachLine();
        fromNoneTo8();
        Due.end();
    }

    private static void behindEachLine() {
        Due.sentence("How many prefixes, or else suffixes there are.");
        Desk desk = new Desk();
        behind(desk, "prefix A 0 un 0", 1, 0);
        behind(desk, "suffix A 0 s 0", 1, 1);
        behind(desk, "suffix A 0 s 0", 1, 2);
        behind(desk, "suffix A 0 s", 1, 2);
        behind(desk, "prefix a 0 s 0", 1, 2);
        behind(desk, "add cat/A", 1, 2);
        behind(desk, "drop cat", 1, 2);
        behind(desk, "clear x", 1, 2);
        behind(desk, "clear", 0, 0);
        behind(desk, "suffix Z 0 0 0", 0, 1);
        desk.type("prefix A 0 0 0");
        Due.same("rules(true) before the run", desk.rules(true), 0);
    }

    private static void fromNoneTo8() {
        Due.sentence("How many prefixes, or else suffixes there are.");
        Desk desk = new Desk();
        Due.same("rules(true) of none", desk.rules(true), 0);
        Due.same("rules(false) of none", desk.rules(false), 0);
        for (int i = 1; i <= 10; i++) {
            behind(desk, "prefix B abcdef abcdef .....z", Math.min(8, i), 0);
        }
        for (int i = 1; i <= 10; i++) {
            behind(desk, "suffix B abcdef abcdef z.....", 8, Math.min(8, i));
        }
        behind(desk, "clear", 0, 0);
    }

    private static void behind(Desk desk, String line, int prefixes, int suffixes) {
        desk.given(line);
        Due.same("rules(true) behind '" + line + "'", desk.rules(true), prefixes);
        Due.same("rules(false) behind '" + line + "'", desk.rules(false), suffixes);
    }
}
