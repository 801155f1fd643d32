/** Terms: what words, entries and flags are, and how many there may be. */
public final class TermsWordsTest {
    private static final String[] VERBS = {"add", "drop", "check", "look", "why", "forms"};
    private static final String SIXTEEN = "abcdefghijklmnop";

    public static void main(String[] args) {
        wordsAreOfLetters();
        atMost300Entries();
        entriesStayInOrderWhileTheyFill();
        wordsOf1To16Letters();
        flagsAToZ();
        noFlags();
        Due.end();
    }

    private static void wordsAreOfLetters() {
        Due.sentence("WORDS are of the letters a to z.");
        Desk desk = new Desk();
        desk.says("add az", "ok").says("check az za", "za").says("why az", "az").says("look a", "az");
        desk.says("forms az", "az").says("drop az", "ok");
        for (String verb : VERBS) {
            Desk wrong = new Desk();
            String place = "? " + (verb.length() + 2);
            for (String other : new String[] {"`", "{", "A", "Z", "0", "9", ".", "-", "\t", "\u0001", "\u00e1",
                "\u00ff"}) {
                wrong.says(verb + " " + other, place).says(verb + " a" + other + "a", place);
            }
            Due.same("entries() behind '" + verb + "' of what are no words", wrong.entries(), 0);
        }
    }

    private static void atMost300Entries() {
        Due.sentence("THE DICTIONARY has at most 300 ENTRIES");
        Desk desk = Desk.withEntries(299);
        Due.same("entries() of 299", desk.entries(), 299);
        desk.says("add zy", "ok");
        Due.same("entries() of 300", desk.entries(), 300);
        desk.says("add zz", "full");
        Due.same("entries() behind the 301st", desk.entries(), 300);
        desk.says("look z", "zy").says("check zz zy", "zz").says("forms zz", "-").says("count", "300 0 0");
    }

    private static void entriesStayInOrderWhileTheyFill() {
        Due.sentence("THE DICTIONARY has at most 300 ENTRIES");
        Desk desk = new Desk();
        for (int part = 0; part < 2; part++) {
            StringBuilder lines = new StringBuilder();
            for (int i = 0; i < 150; i++) {
                int word = (150 * part + i) * 7 % 300;
                lines.append("add ").append((char) ('a' + word / 26)).append((char) ('a' + word % 26)).append('\n');
            }
            desk.given(lines.toString());
        }
        Due.same("entries()", desk.entries(), 300);
        desk.says("look f", "fa fb fc fd fe ff fg fh fi fj fk fl fm fn fo fp fq fr fs ft fu fv fw fx fy fz");
        desk.says("look l", "la lb lc ld le lf lg lh li lj lk ll lm ln");
    }

    private static void wordsOf1To16Letters() {
        Due.sentence("words of 1 to 16 letters, each with a set of FLAGS");
        Desk desk = new Desk();
        desk.says("add a", "ok").says("add " + SIXTEEN, "ok").says("look a", "a " + SIXTEEN);
        desk.says("add " + SIXTEEN + "q", "? 5").says("add " + SIXTEEN + "q/A", "? 5").says("add /A", "? 5");
        desk.says("add / ", "? 5").says("look a", "a " + SIXTEEN).says("add b/A", "ok").says("add z" + SIXTEEN, "? 5");
        desk.says("add bbcdefghijklmnop/A", "ok").says("drop " + SIXTEEN, "ok").says("count", "3 0 0");

        // Words that differ in the last letter alone are others.
        desk.says("add bbcdefghijklmnoq", "ok").says("add bbcdefghijklmno", "ok").says("look bbcdefghijklmnop",
            "bbcdefghijklmnop");
    }

    private static void flagsAToZ() {
        Due.sentence("FLAGS (A to Z, perhaps none)");
        Desk desk = new Desk();
        desk.given("suffix A 0 a 0", "suffix Z 0 z 0");
        desk.says("add b/A", "ok").says("add c/Z", "ok").says("add d/ZA", "ok").says("forms b", "b ba");
        desk.says("forms c", "c cz").says("forms d", "d da dz");
        for (String none : new String[] {"@", "[", "a", "z", "0", ".", "/", "\u00c1"}) {
            desk.says("add e/" + none, "? 5").says("suffix " + none + " 0 s 0", "? 8");
            desk.says("add e/A" + none, "? 5").says("prefix " + none + " 0 s 0", "? 8");
        }
        desk.says("count", "3 0 2");
    }

    private static void noFlags() {
        Due.sentence("FLAGS (A to Z, perhaps none)");
        Desk desk = new Desk();
        for (char flag = 'A'; flag < 'I'; flag++) {
            desk.given("suffix " + flag + " 0 s 0", "prefix " + flag + " 0 un 0");
        }
        desk.says("add cat", "ok").says("forms cat", "cat").says("why cats", "-").says("add dog/I", "ok");
        desk.says("forms dog", "dog").says("add dog/H", "again").says("forms dog", "dog dogs undog undogs");
    }
}
