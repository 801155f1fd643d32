/** Terms: the lines why, forms and count. */
public final class TermsWhyFormsTest {
    public static void main(String[] args) {
        eachEntryInOrder();
        firstByNoPrefix();
        allWays();
        theWayIsTold();
        whyTellsNone();
        formsEachOnceInOrder();
        formsOfNoEntry();
        asManyFormsAsThereCanBe();
        formsManyTimes();
        counting();
        countOfFull();
        Due.end();
    }

    private static void eachEntryInOrder() {
        Due.sentence("why w: for each entry, in order, and each way in which the word is a form of it");
        Desk desk = new Desk();
        desk.given("suffix A 0 s 0", "suffix A y s 0", "suffix A t ts 0", "prefix A x 0 0", "suffix A ss s 0");
        desk.given("add cats/A", "add cat/A", "add xcats/A", "add caty/A", "add catss/A", "add bcats/A");
        desk.says("why cats", "cat+s1 cat+s3 cats catss+s4 caty+s2 p1+xcats");
        desk.given("drop cats", "add cat", "add catz/A");
        desk.says("why cats", "catss+s4 caty+s2 p1+xcats");
    }

    private static void firstByNoPrefix() {
        Due.sentence("first by no prefix, then by prefixes in order, with each of these first by no suffix");
        Desk desk = new Desk();
        desk.given("prefix A 0 a 0", "prefix A 0 0 0", "suffix A 0 a 0", "suffix A 0 0 0", "suffix A b a 0");
        desk.given("add b/A", "add a/A", "add aa/A", "add ab/A");
        desk.says("why a", "a a+s2 p2+a p2+a+s2");
        desk.says("why aa", "a+s1 p1+a p1+a+s2 p2+a+s1 aa aa+s2 p2+aa p2+aa+s2 ab+s3 p2+ab+s3");
        desk.says("why ba", "b+s1 p2+b+s1");
        desk.given("drop a", "add aa");
        desk.says("why aa", "aa ab+s3 p2+ab+s3");
    }

    private static void allWays() {
        Due.sentence("then by prefixes in order, with each of these first by no suffix, then by suffixes in order");
        Desk desk = new Desk();
        for (int i = 0; i < 8; i++) {
            desk.given("prefix A 0 0 0", "suffix A 0 0 0");
        }
        desk.given("add a/A");
        StringBuilder all = new StringBuilder();
        for (int p = 0; p <= 8; p++) {
            for (int s = 0; s <= 8; s++) {
                all.append(p > 0 ? "p" + p + "+" : "").append('a').append(s > 0 ? "+s" + s : "").append(' ');
            }
        }
        String ways = all.toString().trim() + "\n";
        desk.type("why a");
        desk.run();
        Due.same("size() of 81 ways", desk.size(), ways.length());
        Due.same("the first ways", desk.output(0, 200), ways.substring(0, 200));
        int end = ways.length();
        Due.same("the last ways", desk.output(end - 200, end), ways.substring(end - 200));
    }

    private static void theWayIsTold() {
        Due.sentence("with p, the prefix's number and + before it, with +, s and the suffix's number behind it");
        Desk desk = new Desk();
        desk.given("add word/AB", "prefix Z 0 z 0", "prefix A 0 re 0", "suffix B 0 s 0");
        desk.says("why rewords", "p2+word+s1").says("why word", "word").says("why reword", "p2+word");
        desk.says("why words", "word+s1");
    }

    private static void whyTellsNone() {
        Due.sentence("as p2+word+s1; a space between them; - for none.");
        Desk desk = new Desk();
        desk.says("why word", "-");
        desk.given("add word/AB", "prefix Z 0 z 0", "prefix A 0 re 0", "suffix B 0 s 0");
        desk.says("why zword", "-").says("why w", "-").says("why rewordss", "-").says("why re", "-").says("why s", "-");
        desk.says("why res", "-").says("why rerewords", "-").says("why wor", "-").says("why wordsre", "-");
    }

    private static void formsEachOnceInOrder() {
        Due.sentence("forms w: all forms of the entry, each once, in order");
        Desk desk = new Desk();
        desk.given("add cat/AB", "add ca", "suffix A 0 s 0", "suffix B 0 s 0", "suffix A t 0 0", "prefix B c b at");
        desk.says("forms cat", "ca cat cats");
        desk.given("prefix B c b ca", "prefix A 0 0 0");
        desk.says("forms cat", "ba bat bats ca cat cats").says("forms ca", "ca");
        desk.given("clear", "suffix A 0 0 0", "suffix A t t 0", "prefix A c c 0", "prefix A 0 0 0", "add cat/A");
        desk.says("forms cat", "cat");
    }

    private static void formsOfNoEntry() {
        Due.sentence("in order; - if it is none.");
        Desk desk = new Desk();
        desk.says("forms cat", "-");
        desk.given("add cat/A", "suffix A 0 s 0");
        desk.says("forms cats", "-").says("forms c", "-").says("forms catt", "-").says("forms ca", "-");
        desk.says("forms d", "-").says("drop cat", "ok").says("forms cat", "-");
    }

    private static void asManyFormsAsThereCanBe() {
        Due.sentence("forms w: all forms of the entry, each once, in order");
        Desk desk = new Desk();
        StringBuilder lines = new StringBuilder();
        for (char c = 'a'; c < 'i'; c++) {
            lines.append("suffix A 0 ").append(c).append("zzzzz 0\nprefix A 0 ").append(c).append("zzzzz 0\n");
        }
        desk.given(lines.toString(), "add qqqqqqqqqqqqqqqq/A", "add a");
        desk.type("forms qqqqqqqqqqqqqqqq");
        desk.run();
        int length = 81 * 16 + 2 * 9 * 8 * 6 + 81;
        Due.same("size() of 81 forms of up to 28 letters", desk.size(), length);
        String front = "azzzzzqqqqqqqqqqqqqqqq azzzzzqqqqqqqqqqqqqqqqazzzzz azzzzzqqq";
        Due.same("their front", desk.output(0, front.length()), front);
        Due.same("their end", desk.output(length - 24, length), " qqqqqqqqqqqqqqqqhzzzzz\n");
    }

    private static void formsManyTimes() {
        Due.sentence("forms w: all forms of the entry, each once, in order");
        Desk desk = new Desk();
        desk.given("add aaaaaaaaaaaaaaaa/A", "suffix A 0 bbbbbb 0", "prefix A 0 bbbbbb 0");
        desk.given("forms aaaaaaaaaaaaaaaa\n".repeat(80));
        desk.says("forms aaaaaaaaaaaaaaaa", "aaaaaaaaaaaaaaaa aaaaaaaaaaaaaaaabbbbbb bbbbbbaaaaaaaaaaaaaaaa "
            + "bbbbbbaaaaaaaaaaaaaaaabbbbbb");
    }

    private static void counting() {
        Due.sentence("count: how many entries, prefixes, suffixes there are, a space between them.");
        Desk desk = new Desk();
        desk.says("count", "0 0 0");
        desk.given("add a", "add b", "add a", "prefix A 0 0 0", "suffix A 0 0 0", "suffix A 0 0 0", "suffix A 0 0 0");
        desk.says("count", "2 1 3");
        desk.given("drop a", "drop c", "add C", "prefix A", "suffix a 0 0 0");
        desk.says("count", "1 1 3");
    }

    private static void countOfFull() {
        Due.sentence("count: how many entries, prefixes, suffixes there are, a space between them.");
        Desk desk = Desk.withEntries(101);
        desk.says("count", "101 0 0").says("drop aa", "ok").says("count", "100 0 0").says("drop ab", "ok");
        desk.says("count", "99 0 0");
        for (int i = 0; i < 8; i++) {
            desk.given("prefix A 0 0 0", "suffix A 0 0 0");
        }
        desk.says("count", "99 8 8");
        Desk.withEntries(10).says("count", "10 0 0").says("drop aa", "ok").says("count", "9 0 0");
        Desk.withEntries(300).says("add zz", "full").says("count", "300 0 0");
    }
}
