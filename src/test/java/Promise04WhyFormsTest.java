/** Promise 4: why, forms and count. */
public final class Promise04WhyFormsTest {
    public static void main(String[] args) {
        theDocumentsForm();
        orderOfWays();
        allWays();
        forms();
        manyForms();
        counting();
        Due.end();
    }

    private static void theDocumentsForm() {
        Desk desk = new Desk();
        desk.given("add word/AB", "prefix Z 0 z 0", "prefix A 0 re 0", "suffix B 0 s 0");
        desk.says("why rewords", "p2+word+s1").says("why word", "word").says("why reword", "p2+word");
        desk.says("why words", "word+s1").says("why zword", "-").says("why w", "-").says("why rewordss", "-");
    }

    private static void orderOfWays() {
        Desk desk = new Desk();
        desk.given("prefix A 0 a 0", "prefix A 0 0 0", "suffix A 0 a 0", "suffix A 0 0 0", "suffix A b a 0");
        desk.given("add b/A", "add a/A", "add aa/A", "add ab/A");
        desk.says("why a", "a a+s2 p2+a p2+a+s2");
        desk.says("why aa", "a+s1 p1+a p1+a+s2 p2+a+s1 aa aa+s2 p2+aa p2+aa+s2 ab+s3 p2+ab+s3");
        desk.says("why ba", "b+s1 p2+b+s1");
        desk.given("drop a", "add aa");
        desk.says("why aa", "aa ab+s3 p2+ab+s3");
    }

    private static void allWays() {
        Desk desk = new Desk();
        StringBuilder all = new StringBuilder();
        for (int i = 0; i < 8; i++) {
            desk.given("prefix A 0 0 0", "suffix A 0 0 0");
        }
        desk.given("add a/A");
        for (int p = 0; p <= 8; p++) {
            for (int s = 0; s <= 8; s++) {
                all.append(p > 0 ? "p" + p + "+" : "").append('a').append(s > 0 ? "+s" + s : "").append(' ');
            }
        }
        desk.type("why a");
        desk.run();
        String ways = all.toString().trim() + "\n";
        Due.same("size of 81 ways", desk.size(), ways.length());
        same(desk, "the first ways", 0, ways.substring(0, 200));
        same(desk, "the last ways", ways.length() - 200, ways.substring(ways.length() - 200));
    }

    private static void same(Desk desk, String what, int from, String want) {
        StringBuilder got = new StringBuilder();
        for (int i = 0; i < want.length(); i++) {
            got.append((char) desk.output(from + i));
        }
        Due.same(what, got.toString(), want);
    }

    private static void forms() {
        Desk desk = new Desk();
        desk.says("forms cat", "-");
        desk.given("add cat/AB", "add ca", "suffix A 0 s 0", "suffix B 0 s 0", "suffix A t 0 0", "prefix B c b at");
        desk.says("forms cat", "ca cat cats").says("forms cats", "-").says("forms c", "-").says("forms catt", "-");
        desk.given("prefix B c b ca", "prefix A 0 0 0");
        desk.says("forms cat", "ba bat bats ca cat cats").says("forms ca", "ca");

        // All 81 forms may be different, and as long as forms can be.
        Desk most = new Desk();
        StringBuilder lines = new StringBuilder();
        for (char c = 'a'; c < 'i'; c++) {
            lines.append("suffix A 0 ").append(c).append("zzzzz 0\nprefix A 0 ").append(c).append("zzzzz 0\n");
        }
        most.given(lines.toString(), "add qqqqqqqqqqqqqqqq/A", "add a");
        most.type("forms qqqqqqqqqqqqqqqq");
        most.run();
        int length = 81 * 16 + 2 * 9 * 8 * 6 + 81;
        Due.same("size of 81 forms", most.size(), length);
        same(most, "their front", 0, "azzzzzqqqqqqqqqqqqqqqq azzzzzqqqqqqqqqqqqqqqqazzzzz azzzzzqqq");
        same(most, "their end", length - 24, " qqqqqqqqqqqqqqqqhzzzzz\n");
    }

    private static void manyForms() {
        Desk desk = new Desk();
        desk.given("add aaaaaaaaaaaaaaaa/A", "suffix A 0 bbbbbb 0", "prefix A 0 bbbbbb 0");
        desk.given("forms aaaaaaaaaaaaaaaa\n".repeat(80));
        desk.says("forms aaaaaaaaaaaaaaaa", "aaaaaaaaaaaaaaaa aaaaaaaaaaaaaaaabbbbbb bbbbbbaaaaaaaaaaaaaaaa "
            + "bbbbbbaaaaaaaaaaaaaaaabbbbbb");
    }

    private static void counting() {
        Desk desk = new Desk();
        desk.says("count", "0 0 0");
        desk.given("add a", "add b", "add a", "prefix A 0 0 0", "suffix A 0 0 0", "suffix A 0 0 0", "suffix A 0 0 0");
        desk.says("count", "2 1 3");
        desk.given("drop a", "drop c", "add C", "prefix A", "suffix a 0 0 0");
        desk.says("count", "1 1 3");
        StringBuilder lines = new StringBuilder();
        for (int i = 0; i < 104; i++) {
            lines.append("add ").append((char) ('a' + i / 26)).append((char) ('a' + i % 26)).append('\n');
        }
        desk.given(lines.toString());
        desk.says("count", "105 1 3").says("drop aa", "ok").says("drop ab", "ok").says("drop ac", "ok");
        desk.says("drop ad", "ok").says("drop ae", "ok").says("count", "100 1 3").says("drop b", "ok");
        desk.says("count", "99 1 3");
    }
}
