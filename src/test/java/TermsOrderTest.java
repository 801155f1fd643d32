/** Terms: the order in which words are printed. */
public final class TermsOrderTest {
    public static void main(String[] args) {
        byLetters();
        aWordBeforeThoseThatBeginWithIt();
        inEveryLineThatHasAnOrder();
        Due.end();
    }

    private static void byLetters() {
        Due.sentence("ORDER is by letters");
        Desk desk = new Desk();
        desk.says("check z y b a", "a b y z").says("check ba ab aa bb", "aa ab ba bb");
        desk.says("check bbbbbbbbbbbbbbbbbbbbbbbbbbbb a c", "a bbbbbbbbbbbbbbbbbbbbbbbbbbbb c");
        desk.says("check aaaaaaaaaaaaaaaaaaaaaaaaaaab aaaaaaaaaaaaaaaaaaaaaaaaaaaa",
            "aaaaaaaaaaaaaaaaaaaaaaaaaaaa aaaaaaaaaaaaaaaaaaaaaaaaaaab");
    }

    private static void aWordBeforeThoseThatBeginWithIt() {
        Due.sentence("a word before those that begin with it");
        Desk desk = new Desk();
        desk.says("check aaaa aaa aa a", "a aa aaa aaaa").says("check ab aa a b", "a aa ab b");
        desk.says("check zz z", "z zz").says("check az aza", "az aza");
    }

    private static void inEveryLineThatHasAnOrder() {
        Due.sentence("a word before those that begin with it");
        Desk desk = new Desk();
        desk.given("add ab/A", "add aaa/A", "add b/A", "add a/A", "add aa/A", "add abc");
        desk.given("suffix A 0 a 0", "suffix A 0 0 0");
        desk.says("look a", "a aa aaa ab abc").says("forms aa", "aa aaa").says("why aa", "a+s1 aa aa+s2");
        desk.given("drop aa", "add aab", "add az/A");
        desk.says("look a", "a aaa aab ab abc az").says("forms az", "az aza").says("check b ba abcd abc ac", "abcd ac");
    }
}
