/** Terms: the lines add, drop and clear. */
public final class TermsAddDropTest {
    private static final String CAPITALS = "ABCDEFGHIJKLMNOPQRSTUVWXYZ";

    public static void main(String[] args) {
        anEntryWithNoFlags();
        oneTo26CapitalsEachOnce();
        again();
        full();
        drop();
        clear();
        Due.end();
    }

    private static void anEntryWithNoFlags() {
        Due.sentence("add w, add w/F..: w becomes an entry with no flags, or those F");
        Desk desk = new Desk();
        desk.given("suffix A 0 s 0", "suffix Z 0 t 0");
        desk.says("add a", "ok").says("add z/A", "ok").says("add b/AZ", "ok").says("look a", "a").says("look z", "z");
        desk.says("forms a", "a").says("forms z", "z zs").says("forms b", "b bs bt").says("count", "3 0 2");
    }

    private static void oneTo26CapitalsEachOnce() {
        Due.sentence("or those F, 1 to 26 capitals, each once at most: ok");
        Desk desk = new Desk();
        desk.given("suffix A 0 a 0", "suffix M 0 m 0", "suffix Z 0 z 0");
        desk.says("add a/", "? 5").says("add b/M", "ok").says("forms b", "b bm");
        desk.says("add c/" + CAPITALS, "ok").says("forms c", "c ca cm cz");
        desk.says("add d/ZYXWVUTSRQPONMLKJIHGFEDCBA", "ok").says("forms d", "d da dm dz");
        desk.says("add e/" + CAPITALS + "A", "? 5").says("add e/AA", "? 5").says("add e/ABA", "? 5");
        desk.says("add e/ZZ", "? 5").says("add e/ABCC", "? 5").says("add e/Aa", "? 5").says("add e/A/B", "? 5");
        desk.says("add e//A", "? 5").says("add e/A/", "? 5").says("add eA", "? 5").says("count", "3 0 3");
    }

    private static void again() {
        Due.sentence("if it was one already, with these flags instead: again");
        Desk desk = new Desk();
        desk.given("suffix A 0 a 0", "suffix Z 0 z 0");
        desk.says("add cat/A", "ok").says("add cat/A", "again").says("forms cat", "cat cata");
        desk.says("add cat/Z", "again").says("forms cat", "cat catz").says("add cat", "again").says("forms cat", "cat");
        desk.says("add cat/AZ", "again").says("forms cat", "cat cata catz").says("count", "1 0 2");
        desk.says("add dog", "ok").says("forms dog", "dog").says("forms cat", "cat cata catz");

        // Neither a form of an entry nor what it begins with is one already.
        desk.says("add cata", "ok").says("add ca", "ok").says("look c", "ca cat cata").says("add cat/aa", "? 5");
        desk.says("forms cat", "cat cata catz");
    }

    private static void full() {
        Due.sentence("when there are 300 others: full.");
        Desk desk = Desk.withEntries(299);
        desk.says("add zzz", "ok").says("add zzzz", "full").says("add a", "full").says("add mm/A", "full");
        desk.says("look m", "-").says("count", "300 0 0");

        // An entry has but 299 others, and what is at fault is no add.
        desk.says("suffix A 0 s 0", "ok").says("add zzz/A", "again").says("why zzzs", "zzz+s1").says("add aa", "again");
        desk.says("add Z", "? 5").says("add zzzz zz", "? 10").says("add", "? 4").says("drop zzzz", "none");
        desk.says("drop aa", "ok").says("add a", "ok").says("add aa", "full").says("look aa", "-");
        desk.says("drop zzz", "ok").says("add zz", "ok").says("add zzz", "full").says("look z", "zz");
        desk.says("clear", "ok").says("add aa", "ok").says("count", "1 0 0");
    }

    private static void drop() {
        Due.sentence("drop w: ok, or none, if it is no entry.");
        Desk desk = new Desk();
        desk.says("drop cat", "none");
        desk.given("add cat/A", "add ca", "add cats", "suffix A 0 a 0");
        desk.says("drop c", "none").says("drop catsa", "none").says("drop cata", "none").says("drop dog", "none");
        desk.says("drop cat", "ok").says("drop cat", "none").says("look c", "ca cats");
        desk.says("check cata cat", "cat cata");
        desk.says("add cat", "ok").says("forms cat", "cat").says("look c", "ca cat cats").says("drop ca", "ok");
        desk.says("drop cats", "ok").says("look c", "cat").says("drop cat", "ok").says("look c", "-");
        desk.says("count", "0 0 1").says("drop abcdefghijklmnop", "none").says("drop a", "none");
    }

    private static void clear() {
        Due.sentence("clear: ok; there are no entries and no rules.");
        Desk desk = new Desk();
        desk.says("clear", "ok").says("count", "0 0 0");
        desk.given("add cat/A", "suffix A 0 a 0", "prefix A 0 b 0");
        desk.says("clear", "ok").says("count", "0 0 0").says("look c", "-").says("check cat", "cat");
        desk.says("clear", "ok");
        Due.same("entries()", desk.entries(), 0);
        Due.same("rules(true)", desk.rules(true), 0);
        Due.same("rules(false)", desk.rules(false), 0);
        desk.says("add cat/A", "ok").says("forms cat", "cat").says("suffix A 0 z 0", "ok").says("why catz", "cat+s1");

        Desk full = Desk.withEntries(300);
        full.says("clear", "ok").says("look a", "-").says("add b", "ok").says("look b", "b").says("count", "1 0 0");

        // What stands in the text and in the output is left.
        Desk text = new Desk();
        text.type("add a\nclear\nadd b\nlook b\ncount");
        text.run();
        Due.same("lines behind clear", text.output(), "ok\nok\nok\nb\n1 0 0\n");
    }
}
