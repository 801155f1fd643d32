/** Terms: what rules are, how many there may be, and with which entries they go. */
public final class TermsRulesTest {
    public static void main(String[] args) {
        atMost8OfEach();
        numberedAsTheyCome();
        stripAndAdd0To6Letters();
        conditionOf0To6Characters();
        aPointStandsForAny();
        flagIsNeeded();
        stripIsNeeded();
        lastLettersAreTheConditions();
        asManyLettersAtLeast();
        prefixesWithTheFirstLetters();
        theConditionIsOfTheEntryItself();
        aRuleMore();
        zeroForOneWithoutLetters();
        orFull();
        Due.end();
    }

    private static void atMost8OfEach() {
        Due.sentence("RULES are PREFIXES and SUFFIXES, at most 8 of each");
        Desk desk = new Desk();
        desk.given("add a/A");
        for (int i = 1; i <= 8; i++) {
            desk.says("suffix A 0 " + (char) ('a' + i) + " 0", "ok");
        }
        Due.same("rules(false) of 8", desk.rules(false), 8);
        desk.says("suffix A 0 z 0", "full");
        Due.same("rules(false) behind the 9th", desk.rules(false), 8);
        Due.same("rules(true) beside 8 suffixes", desk.rules(true), 0);
        for (int i = 1; i <= 8; i++) {
            desk.says("prefix A 0 " + (char) ('a' + i) + " 0", "ok");
        }
        desk.says("prefix A 0 z 0", "full");
        Due.same("rules(true) behind the 9th", desk.rules(true), 8);
        Due.same("rules(false) beside 8 prefixes", desk.rules(false), 8);
        desk.says("why ai", "a+s8").says("why ia", "p8+a").says("why iai", "p8+a+s8").says("why az", "-");
        desk.says("why za", "-").says("count", "1 8 8");
    }

    private static void numberedAsTheyCome() {
        Due.sentence("numbered from 1 on as they come");
        Desk desk = new Desk();
        desk.given("add a/A", "suffix A 0 z 0", "prefix A 0 y 0", "suffix A 0 b 0", "suffix A 0 z 0", "prefix A 0 b 0");
        desk.says("why az", "a+s1 a+s3").says("why ab", "a+s2").says("why ya", "p1+a").says("why ba", "p2+a");

        // A line at fault takes no number, and clear begins anew.
        desk.says("suffix A 0 c", "? 13").says("suffix A 0 d 0", "ok").says("why ad", "a+s4");
        desk.given("clear", "add a/A", "suffix A 0 d 0", "prefix A 0 d 0");
        desk.says("why ad", "a+s1").says("why da", "p1+a");
    }

    private static void stripAndAdd0To6Letters() {
        Due.sentence("STRIP and ADD (0 to 6 letters each)");
        for (String verb : new String[] {"prefix", "suffix"}) {
            Desk desk = new Desk();
            desk.says(verb + " A 0 0 0", "ok").says(verb + " A a b 0", "ok").says(verb + " A abcdef ghijkl 0", "ok");
            desk.says(verb + " A abcdefg 0 0", "? 10").says(verb + " A 0 abcdefg 0", "? 12");
            desk.says(verb + " A abcdef abcdefg 0", "? 17").says(verb + " A . 0 0", "? 10");
            desk.says(verb + " A 0 . 0", "? 12").says(verb + " A a.c 0 0", "? 10").says(verb + " A 0 a.c 0", "? 12");
            desk.says(verb + " A A 0 0", "? 10").says(verb + " A 0 A 0", "? 12").says(verb + " A ` 0 0", "? 10");
            desk.says(verb + " A 0 { 0", "? 12").says("count", verb.equals("prefix") ? "0 3 0" : "0 0 3");
        }
        Desk longest = new Desk();
        longest.given("suffix S uvwxyz abcdef 0", "prefix P abcdef uvwxyz 0", "add tuvwxyz/S", "add abcdefg/P");
        longest.says("forms tuvwxyz", "tabcdef tuvwxyz").says("forms abcdefg", "abcdefg uvwxyzg");
        longest.says("why tabcdef", "tuvwxyz+s1").says("why uvwxyzg", "p1+abcdefg");
    }

    private static void conditionOf0To6Characters() {
        Due.sentence("a CONDITION of 0 to 6 characters, each a letter or a point");
        for (String verb : new String[] {"prefix", "suffix"}) {
            Desk desk = new Desk();
            desk.says(verb + " A 0 s 0", "ok").says(verb + " A 0 s .", "ok").says(verb + " A 0 s a", "ok");
            desk.says(verb + " A 0 s ......", "ok").says(verb + " A 0 s abcdef", "ok");
            desk.says(verb + " A 0 s a.c.ez", "ok");
            desk.says(verb + " A 0 s .......", "? 14").says(verb + " A 0 s abcdefg", "? 14");
            desk.says(verb + " A 0 s ab*", "? 14").says(verb + " A 0 s A", "? 14").says(verb + " A 0 s /", "? 14");
            desk.says(verb + " A 0 s -", "? 14").says(verb + " A 0 s .0", "? 14").says(verb + " A 0 s `", "? 14");
            desk.says(verb + " A 0 s {", "? 14").says("count", verb.equals("prefix") ? "0 6 0" : "0 0 6");
        }
    }

    private static void aPointStandsForAny() {
        Due.sentence("a point, which stands for any");
        Desk desk = new Desk();
        desk.given("suffix S 0 s a.c", "suffix T 0 t .", "prefix P 0 p .b.", "prefix Q 0 q ......");
        desk.given("add aac/S", "add azc/S", "add abd/S", "add bbc/S", "add acc/S", "add a/T", "add z/T");
        desk.says("forms aac", "aac aacs").says("forms azc", "azc azcs").says("forms acc", "acc accs");
        desk.says("forms abd", "abd").says("forms bbc", "bbc").says("forms a", "a at").says("forms z", "z zt");
        desk.given("add abz/P", "add zba/P", "add bab/P", "add abcdef/Q", "add zyxwvu/Q", "add abcde/Q");
        desk.says("forms abz", "abz pabz").says("forms zba", "pzba zba").says("forms bab", "bab");
        desk.says("forms abcdef", "abcdef qabcdef").says("forms zyxwvu", "qzyxwvu zyxwvu").says("forms abcde", "abcde");
    }

    private static void flagIsNeeded() {
        Due.sentence("A SUFFIX GOES WITH an entry that has its flag");
        Desk desk = new Desk();
        desk.given("add a/A", "add b/B", "add c/AB", "add d", "suffix A 0 x 0", "prefix B 0 y 0");
        desk.says("forms a", "a ax").says("forms b", "b yb").says("forms c", "c cx yc ycx").says("forms d", "d");
        desk.says("check ax bx cx dx ya yb yc yd ycx yax", "bx dx ya yax yd");
        desk.given("add e/BCDEFGHIJKLMNOPQRSTUVWXYZ", "add f/ACDEFGHIJKLMNOPQRSTUVWXYZ");
        desk.says("forms e", "e ye").says("forms f", "f fx");
    }

    private static void stripIsNeeded() {
        Due.sentence("ends with STRIP, and whose last letters");
        Desk desk = new Desk();
        desk.given("suffix S ing ed 0");
        desk.given("add sing/S", "add song/S", "add ng/S", "add ingo/S", "add singe/S", "add inging/S");
        desk.says("forms sing", "sed sing").says("forms song", "song").says("forms ng", "ng");
        desk.says("forms ingo", "ingo").says("forms singe", "singe").says("forms inging", "inged inging");
        desk.says("check sed soed ed ngoed ingo singed", "ed ngoed singed soed");
        desk.given("clear", "suffix S abcdef x 0", "add zabcdef/S", "add zbcdef/S", "add bcdef/S", "add zabcdeg/S");
        desk.says("forms zabcdef", "zabcdef zx").says("forms zbcdef", "zbcdef").says("forms bcdef", "bcdef");
        desk.says("forms zabcdeg", "zabcdeg");
    }

    private static void lastLettersAreTheConditions() {
        Due.sentence("whose last letters are those of the CONDITION, one by one");
        Desk desk = new Desk();
        desk.given("suffix S y ies .y", "add cry/S", "add yc/S", "add yy/S", "add cray/S");
        desk.says("forms cry", "cries cry").says("forms yc", "yc").says("forms yy", "yies yy");
        desk.says("forms cray", "craies cray");
        desk.given("clear", "suffix S 0 s bcdefg", "add abcdefg/S", "add bcdefg/S", "add acdefg/S", "add bcdefgh/S");
        desk.given("add abcdefh/S", "add accdefg/S");
        desk.says("forms abcdefg", "abcdefg abcdefgs").says("forms bcdefg", "bcdefg bcdefgs");
        desk.says("forms acdefg", "acdefg").says("forms bcdefgh", "bcdefgh").says("forms abcdefh", "abcdefh");
        desk.says("forms accdefg", "accdefg");
    }

    private static void asManyLettersAtLeast() {
        Due.sentence("(it has as many at least)");
        Desk desk = new Desk();
        desk.given("suffix S 0 s ..", "prefix P 0 p ...", "suffix T 0 t ......");
        desk.given("add a/S", "add ab/S", "add abc/S", "add b/P", "add bc/P", "add bcd/P", "add bcde/P");
        desk.says("forms a", "a").says("forms ab", "ab abs").says("forms abc", "abc abcs").says("forms b", "b");
        desk.says("forms bc", "bc").says("forms bcd", "bcd pbcd").says("forms bcde", "bcde pbcde");
        desk.given("add cccccc/T", "add ccccc/T", "add c/T");
        desk.says("forms cccccc", "cccccc cccccct").says("forms ccccc", "ccccc").says("forms c", "c");
        desk.says("check as abs pbc pbcd ccccct cccccct ct", "as ccccct ct pbc");
    }

    private static void prefixesWithTheFirstLetters() {
        Due.sentence("A PREFIX likewise, with the first letters.");
        Desk desk = new Desk();
        desk.given("prefix P un re 0", "prefix Q 0 q a.");
        desk.given("add unto/P", "add onto/P", "add tun/P", "add n/P", "add unun/P");
        desk.says("forms unto", "reto unto").says("forms onto", "onto").says("forms tun", "tun").says("forms n", "n");
        desk.says("forms unun", "reun unun");
        desk.given("add ab/Q", "add a/Q", "add ba/Q", "add aa/Q", "add abc/Q");
        desk.says("forms ab", "ab qab").says("forms a", "a").says("forms ba", "ba").says("forms aa", "aa qaa");
        desk.says("forms abc", "abc qabc");
        desk.given("clear", "prefix P abcdef x abcdef", "add abcdefz/P", "add zabcdef/P", "add abcdezf/P");
        desk.says("forms abcdefz", "abcdefz xz").says("forms zabcdef", "zabcdef").says("forms abcdezf", "abcdezf");
    }

    private static void theConditionIsOfTheEntryItself() {
        Due.sentence("whose last letters are those of the CONDITION, one by one");
        Desk desk = new Desk();
        desk.given("suffix S b 0 ab", "suffix T 0 t p", "prefix P 0 p 0", "add ab/S", "add x/PT");
        desk.says("forms ab", "a ab").says("forms x", "px x").says("check pxt", "pxt");
    }

    private static void aRuleMore() {
        Due.sentence("prefix F s a c, suffix F s a c: a rule more, of a flag, STRIP, ADD, CONDITION");
        Desk desk = new Desk();
        desk.says("prefix A c k c", "ok").says("suffix B t p t", "ok").says("add cat/AB", "ok");
        desk.says("forms cat", "cap cat kap kat").says("count", "1 1 1");
        desk.says("suffix B t p t", "ok").says("why cap", "cat+s1 cat+s2").says("count", "1 1 2");
    }

    private static void zeroForOneWithoutLetters() {
        Due.sentence("(0 for one without letters)");
        Desk desk = new Desk();
        desk.says("suffix A 0 0 0", "ok").says("prefix A 0 0 0", "ok").says("add a/A", "ok").says("forms a", "a");
        desk.says("suffix A 00 0 0", "? 10").says("suffix A 0 00 0", "? 12").says("suffix A 0 0 00", "? 14");
        desk.says("suffix A 0a 0 0", "? 10").says("suffix A 0 a0 0", "? 12").says("prefix A 0 0 0.", "? 14");
        desk.says("prefix A O 0 0", "? 10").says("prefix A 1 0 0", "? 10").says("prefix 0 0 0 0", "? 8");
        desk.says("prefix A - 0 0", "? 10").says("count", "1 1 1");
    }

    private static void orFull() {
        Due.sentence("CONDITION (0 for one without letters): ok; or full.");
        for (String verb : new String[] {"prefix", "suffix"}) {
            Desk desk = new Desk();
            for (int i = 0; i < 8; i++) {
                desk.given(verb + " A 0 z 0");
            }
            desk.says(verb + " B 0 y 0", "full").says("add a/AB", "ok").says("check az za ay ya",
                verb.equals("prefix") ? "ay az ya" : "ay ya za");
            desk.says(verb + " A 0 z", "? 13").says(verb + " a 0 z 0", "? 8").says(verb + " A 0 z 0 0", "? 16");
            desk.says("drop a", "ok").says(verb + " B 0 y 0", "full").says("clear", "ok").says(verb + " B 0 y 0", "ok");
        }
    }
}
