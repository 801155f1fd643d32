/** Promise 4: prefix and suffix, and with which entries a rule goes. */
public final class Promise04RuleTest {
    public static void main(String[] args) {
        flagIsNeeded();
        stripIsNeeded();
        conditionIsNeeded();
        aLetterIsLeft();
        bothTogether();
        onlyEntriesAreBases();
        full();
        Due.end();
    }

    private static void flagIsNeeded() {
        Desk desk = new Desk();
        desk.given("add a/A", "add b/B", "add c/AB", "add d", "suffix A 0 x 0", "prefix B 0 y 0");
        desk.says("forms a", "a ax").says("forms b", "b yb").says("forms c", "c cx yc ycx").says("forms d", "d");
        desk.says("check ax bx cx dx ya yb yc yd ycx yax", "bx dx ya yax yd");
    }

    private static void stripIsNeeded() {
        Desk desk = new Desk();
        desk.given("suffix S ing ed 0", "prefix P un re 0");
        desk.given("add sing/S", "add song/S", "add ng/S", "add ingo/S", "add unto/P", "add onto/P", "add tun/P");
        desk.says("forms sing", "sed sing").says("forms song", "song").says("forms ng", "ng");
        desk.says("forms ingo", "ingo").says("forms unto", "reto unto").says("forms onto", "onto");
        desk.says("forms tun", "tun");
        desk.given("clear", "suffix S abcdef x 0", "prefix P abcdef x 0", "add zabcdef/S", "add abcdefz/P");
        desk.says("forms zabcdef", "zabcdef zx").says("forms abcdefz", "abcdefz xz");
    }

    private static void conditionIsNeeded() {
        Desk desk = new Desk();
        desk.given("suffix S y ies .y", "prefix P 0 un a.");
        desk.given("add cry/S", "add y/S", "add yy/S", "add ab/P", "add a/P", "add ba/P", "add aa/P");
        desk.says("forms cry", "cries cry").says("forms y", "y").says("forms yy", "yies yy");
        desk.says("forms ab", "ab unab").says("forms a", "a").says("forms ba", "ba").says("forms aa", "aa unaa");
        desk.given("clear", "suffix S 0 s ......", "prefix P 0 p abcdef");
        desk.given("add abcdef/SP", "add abcde/SP", "add bcdefa/PS", "add abcdefg/PS");
        desk.says("forms abcdef", "abcdef abcdefs pabcdef pabcdefs").says("forms abcde", "abcde");
        desk.says("forms bcdefa", "bcdefa bcdefas");
        desk.says("forms abcdefg", "abcdefg abcdefgs pabcdefg pabcdefgs");

        // The condition is of the entry as it is, not of what STRIP leaves or of what another rule made.
        desk.given("clear", "suffix S b 0 ab", "suffix T 0 t p", "prefix P 0 p 0", "add ab/S", "add x/PT");
        desk.says("forms ab", "a ab").says("forms x", "px x");
    }

    private static void aLetterIsLeft() {
        Desk desk = new Desk();
        desk.given("suffix A ab x 0", "prefix A ab y 0", "add ab/A", "add aba/A", "add cab/A", "add abab/A");
        desk.says("forms ab", "ab").says("forms aba", "aba ya").says("forms cab", "cab cx");
        desk.says("forms abab", "abab abx yab").says("check x y xy yx", "x xy y yx");
    }

    private static void bothTogether() {
        Desk desk = new Desk();
        desk.given("suffix A bc x 0", "prefix A ab y 0", "add abc/A", "add abbc/A", "add abcbc/A");
        desk.says("forms abc", "abc ax yc").says("forms abbc", "abbc abx ybc");
        desk.says("forms abcbc", "abcbc abcx ycbc ycx");
        desk.says("check ycx yx y", "y yx").says("why ycx", "p1+abcbc+s1");

        // ADDs must not be found in one another.
        desk.given("clear", "suffix A 0 ba 0", "prefix A 0 ab 0", "add a/A");
        desk.says("forms a", "a aba ababa").says("check aba ababa abba aabba", "aabba abba");
    }

    private static void onlyEntriesAreBases() {
        Desk desk = new Desk();
        desk.given("suffix A 0 x 0", "suffix A 0 xx 0", "prefix A 0 y 0", "add a/A");
        desk.says("forms a", "a ax axx ya yax yaxx").says("check axxx yya axx", "axxx yya");
    }

    private static void full() {
        Desk desk = new Desk();
        for (int i = 1; i <= 8; i++) {
            desk.says("suffix A 0 " + (char) ('a' + i) + " 0", "ok");
        }
        desk.says("suffix A 0 z 0", "full").says("suffix A 0 z", "? 13").says("count", "0 0 8");
        for (int i = 1; i <= 8; i++) {
            desk.says("prefix A 0 " + (char) ('a' + i) + " 0", "ok");
        }
        desk.says("prefix A 0 z 0", "full").says("add a/A", "ok").says("count", "1 8 8");
        desk.says("why ai", "a+s8").says("why ia", "p8+a").says("why iai", "p8+a+s8").says("why az", "-");
        desk.says("why za", "-");
    }
}
