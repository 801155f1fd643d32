/** Promise 4: add, drop and clear. */
public final class Promise04AddDropTest {
    public static void main(String[] args) {
        words();
        flags();
        dropping();
        clearing();
        full();
        Due.end();
    }

    private static void words() {
        Desk desk = new Desk();
        desk.says("add a", "ok").says("add z", "ok").says("add a", "again");
        desk.says("add abcdefghijklmnop", "ok").says("add abcdefghijklmnop", "again");
        desk.says("count", "3 0 0");
    }

    private static void flags() {
        Desk desk = new Desk();
        desk.given("suffix A 0 a 0", "suffix Z 0 z 0");
        desk.says("add cat/ZYXWVUTSRQPONMLKJIHGFEDCBA", "ok").says("forms cat", "cat cata catz");
        desk.says("add cat/A", "again").says("forms cat", "cat cata");
        desk.says("add cat/Z", "again").says("forms cat", "cat catz");
        desk.says("add cat", "again").says("forms cat", "cat");
        desk.says("add cat/AZ", "again").says("forms cat", "cat cata catz");
        desk.says("add dog", "ok").says("forms dog", "dog").says("forms cat", "cat cata catz");
    }

    private static void dropping() {
        Desk desk = new Desk();
        desk.given("add cat/A", "add ca", "add cats", "suffix A 0 a 0");
        desk.says("drop c", "none").says("drop catsa", "none").says("drop cata", "none");
        desk.says("drop cat", "ok").says("drop cat", "none");
        desk.says("look c", "ca cats").says("check cata", "cata");
        desk.says("add cat", "ok").says("forms cat", "cat").says("look c", "ca cat cats");
        desk.says("drop abcdefghijklmnop", "none");
    }

    private static void clearing() {
        Desk desk = new Desk();
        desk.given("add cat/A", "suffix A 0 a 0", "prefix A 0 b 0");
        desk.says("clear", "ok").says("count", "0 0 0").says("look c", "-").says("clear", "ok");
        desk.says("add cat/A", "ok").says("forms cat", "cat");
        desk.says("suffix A 0 z 0", "ok").says("why catz", "cat+s1");
    }

    private static void full() {
        Desk desk = new Desk();
        fill(desk, 299);
        Due.same("entries()", desk.entries(), 299);
        desk.says("add zzz", "ok").says("add zzzz", "full").says("add a", "full");
        desk.says("add zzz/A", "again").says("add aa", "again").says("add Z", "? 5");
        desk.says("drop zzzz", "none").says("drop aa", "ok").says("add a", "ok").says("add aa", "full");
        desk.says("look aa", "-").says("look a", "a" + words("a", 1, 26)).says("count", "300 0 0");
        desk.says("clear", "ok").says("add aa", "ok");
    }

    private static String words(String first, int from, int to) {
        StringBuilder all = new StringBuilder();
        for (int i = from; i < to; i++) {
            all.append(' ').append(first).append((char) ('a' + i));
        }
        return all.toString();
    }

    private static void fill(Desk desk, int count) {
        StringBuilder text = new StringBuilder();
        for (int i = 0; i < count; i++) {
            text.append("add ").append((char) ('a' + i / 26)).append((char) ('a' + i % 26)).append('\n');
            if (i % 200 == 199 || i == count - 1) {
                desk.type(text.toString());
                desk.run();
                text.setLength(0);
            }
        }
        Due.same("all were added", desk.size(), count * 3);
        desk.wipe();
    }
}
