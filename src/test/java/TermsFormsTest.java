/** Terms: what the forms of an entry are, and when a word is right. */
public final class TermsFormsTest {
    public static void main(String[] args) {
        itItself();
        oneRuleDone();
        bothDone();
        aLetterIsLeft();
        moreLettersThanBothStrips();
        aWordIsRight();
        onlyEntriesAreBases();
        theLongestForms();
        Due.end();
    }

    private static void itItself() {
        Due.sentence("THE FORMS of an entry are: it itself");
        Desk desk = new Desk();
        desk.given("add a", "add b/A", "suffix B 0 s 0");
        desk.says("forms a", "a").says("forms b", "b").says("why a", "a").says("check a b", "-");
    }

    private static void oneRuleDone() {
        Due.sentence("what is left when STRIP is taken off at the end (at the front), with ADD put there");
        Desk desk = new Desk();
        desk.given("suffix A y ies 0", "prefix B in im 0", "suffix C e 0 0", "prefix D a 0 0", "suffix E 0 s 0");
        desk.given("add cry/A", "add inmate/B", "add stone/C", "add atop/D", "add cat/E");
        desk.says("forms cry", "cries cry").says("forms inmate", "immate inmate").says("forms stone", "ston stone");
        desk.says("forms atop", "atop top").says("forms cat", "cat cats");
        desk.says("check crys cryies ies immate mate ston top cats", "cryies crys ies mate");
    }

    private static void bothDone() {
        Due.sentence("for each prefix and suffix that both go with it, both done");
        Desk desk = new Desk();
        desk.given("suffix A bc x 0", "prefix B ab y 0");
        desk.given("add abdbc/AB", "add abebc/A", "add abfbc/B", "add abgb/AB", "add ahbc/AB");
        desk.says("forms abdbc", "abdbc abdx ydbc ydx").says("forms abebc", "abebc abex");
        desk.says("forms abfbc", "abfbc yfbc").says("forms abgb", "abgb ygb").says("forms ahbc", "ahbc ahx");
        desk.says("check ydx yex yfx ygx yhx", "yex yfx ygx yhx");

        // The ADDs stand beside what is left, and are not found in one another.
        desk.given("clear", "suffix A 0 ba 0", "prefix A 0 ab 0", "add a/A");
        desk.says("forms a", "a aba ababa").says("check aba ababa abba aabba ab ba", "aabba ab abba ba");
    }

    private static void aLetterIsLeft() {
        Due.sentence("What is left must have a letter at least");
        Desk desk = new Desk();
        desk.given("suffix A ab x 0", "prefix A ab y 0", "add ab/A", "add aba/A", "add cab/A", "add abab/A");
        desk.says("forms ab", "ab").says("forms aba", "aba ya").says("forms cab", "cab cx");
        desk.says("forms abab", "abab abx yab").says("check x y xy yx ab", "x xy y yx").says("why x", "-");
        desk.given("clear", "suffix A a b 0", "prefix B a c 0", "add a/AB", "add aa/AB");
        desk.says("forms a", "a").says("forms aa", "aa ab ca").says("check b c cb", "b c cb");
        desk.given("clear", "suffix A abcdef 0 0", "prefix A abcdef 0 0");
        desk.given("add abcdef/A", "add zabcdef/A", "add abcdefz/A");
        desk.says("forms abcdef", "abcdef").says("forms zabcdef", "z zabcdef").says("forms abcdefz", "abcdefz z");
        desk.says("why z", "p1+abcdefz zabcdef+s1");

        // With letters to add and none left, the word would be the ADD alone.
        desk.given("clear", "suffix A abc abc 0", "prefix A abc abc 0", "add abc/A");
        desk.says("forms abc", "abc").says("why abc", "abc");
    }

    private static void moreLettersThanBothStrips() {
        Due.sentence("(with both: the entry has more letters than both STRIPs together)");
        Desk desk = new Desk();
        desk.given("suffix A bc x 0", "prefix A ab y 0", "add abc/A", "add abbc/A", "add abcbc/A");
        desk.says("forms abc", "abc ax yc").says("forms abbc", "abbc abx ybc");
        desk.says("forms abcbc", "abcbc abcx ycbc ycx");
        desk.says("check ycx yx y", "y yx").says("why ycx", "p1+abcbc+s1").says("why yx", "-");
        desk.given("clear", "suffix A a x 0", "prefix A a y 0", "add a/A", "add aa/A", "add aaa/A");
        desk.says("forms a", "a").says("forms aa", "aa ax ya").says("forms aaa", "aaa aax yaa yax");
        desk.says("check yx", "yx");
        desk.given("clear", "suffix A ghijkl 0 0", "prefix A abcdef 0 0", "add abcdefghijkl/A", "add abcdefzghijkl/A");
        desk.says("forms abcdefghijkl", "abcdef abcdefghijkl ghijkl");
        desk.says("forms abcdefzghijkl", "abcdefz abcdefzghijkl z zghijkl").says("why z", "p1+abcdefzghijkl+s1");

        // One STRIP alone may be without letters.
        desk.given("clear", "suffix A 0 x 0", "prefix A a y 0", "add a/A", "add ab/A");
        desk.says("forms a", "a ax").says("forms ab", "ab abx yb ybx").says("check yx", "yx");
    }

    private static void aWordIsRight() {
        Due.sentence("A word IS RIGHT when it is a form of an entry.");
        Desk desk = new Desk();
        desk.says("check a", "a").says("add a", "ok").says("check a", "-").says("check aa", "aa");
        desk.says("suffix A 0 a 0", "ok").says("check aa", "aa").says("add a/A", "again").says("check aa", "-");
        desk.says("add a/B", "again").says("check aa", "aa").says("add a/A", "again").says("drop a", "ok");
        desk.says("check a aa", "a aa").says("add a/A", "ok").says("check a aa", "-").says("clear", "ok");
        desk.says("check a aa", "a aa");
    }

    private static void onlyEntriesAreBases() {
        Due.sentence("A word IS RIGHT when it is a form of an entry.");
        Desk desk = new Desk();
        desk.given("suffix A 0 x 0", "suffix A 0 xx 0", "prefix A 0 y 0", "add a/A");
        desk.says("forms a", "a ax axx ya yax yaxx").says("check axxx yya axx", "axxx yya");
        desk.says("add ax/A", "ok").says("check axxx yya axx", "yya").says("why axx", "a+s2 ax+s1");
    }

    private static void theLongestForms() {
        Due.sentence("A word IS RIGHT when it is a form of an entry.");
        Desk desk = new Desk();
        desk.given("add ghijklmnopqrstuv/A", "prefix A 0 abcdef 0", "suffix A 0 wxyzab 0");
        desk.says("check abcdefghijklmnopqrstuvwxyzab", "-");
        desk.says("why abcdefghijklmnopqrstuvwxyzab", "p1+ghijklmnopqrstuv+s1");
        desk.says("check abcdefghijklmnopqrstuvwxyzac", "abcdefghijklmnopqrstuvwxyzac");
        desk.says("check bbcdefghijklmnopqrstuvwxyzab", "bbcdefghijklmnopqrstuvwxyzab");
        desk.given("clear", "add abcdefghijklmnop/A", "suffix A klmnop 0 0", "prefix A abcdef 0 0");
        desk.says("why ghij", "p1+abcdefghijklmnop+s1").says("why ghijk", "-").says("why fghij", "-");

        // Undone, the rules ask for a word that is longer than any entry.
        desk.says("check abcdefghijklmnop ghijklmnopklm ghijkl", "ghijkl ghijklmnopklm");
        desk.says("check abcdefghijklmnopqrstuvwxyzab", "abcdefghijklmnopqrstuvwxyzab");
    }
}
