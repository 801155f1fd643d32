/** Terms: the lines check and look. */
public final class TermsCheckLookTest {
    private static final String SIXTEEN = "abcdefghijklmnop";
    private static final String TWENTY_EIGHT = "abcdefghijklmnopqrstuvwxyzab";

    public static void main(String[] args) {
        allThatAreNotRight();
        oneAtLeast();
        eachOnceInOrder();
        asManyWordsAsTheTextHolds();
        asManyDifferentWordsAsTheTextHolds();
        noneAreWrong();
        wordsOf1To28Letters();
        wordsOf1To16Letters();
        entriesThatBegin();
        lookTakes1To16Letters();
        lookFindsNone();
        lookAtAFullDictionary();
        Due.end();
    }

    private static void allThatAreNotRight() {
        Due.sentence("check w ..: all of these words (one at least) that are not right");
        Desk desk = new Desk();
        desk.given("add cat", "add dog/S", "suffix S 0 s 0");
        desk.says("check cats cat dogs ca dog ca c", "c ca cats").says("check dogs cats", "cats");
        desk.says("check x cat y dog z", "x y z").says("count", "2 0 1").says("check x", "x");
    }

    private static void oneAtLeast() {
        Due.sentence("(one at least)");
        Desk desk = new Desk();
        desk.says("check", "? 6").says("check ", "? 7").says("  check  ", "? 10").says("check a", "a");
    }

    private static void eachOnceInOrder() {
        Due.sentence("each once, in order, a space between them");
        Desk desk = new Desk();
        desk.says("check b a", "a b").says("check a b a b a", "a b").says("check a a", "a");
        desk.says("check ab a abc b aa", "a aa ab abc b").says("check zz z za az", "az z za zz");
        desk.says("check   c    a     b   ", "a b c").says("add a", "ok").says("check a c a b c a", "b c");
    }

    private static void asManyWordsAsTheTextHolds() {
        Due.sentence("each once, in order, a space between them");
        Desk desk = new Desk();
        StringBuilder words = new StringBuilder("check");
        for (int i = 1020; i >= 0; i--) {
            words.append(' ').append((char) ('a' + i % 26));
        }
        Due.same("the line's length", words.length(), 2047);
        desk.says(words.toString(), "a b c d e f g h i j k l m n o p q r s t u v w x y z");

        Desk fault = new Desk();
        fault.says("check" + " a".repeat(1020) + " A", "? 2047");
    }

    private static void asManyDifferentWordsAsTheTextHolds() {
        Due.sentence("each once, in order, a space between them");
        Desk desk = new Desk();
        StringBuilder words = new StringBuilder("check");
        for (int i = 679; i >= 0; i--) {
            words.append(' ').append((char) ('a' + i / 26 % 26)).append((char) ('a' + i % 26));
        }
        desk.type(words.toString());
        Due.same("run()", desk.run(), 1);
        Due.same("each of 676 once", desk.size(), 676 * 3);
        for (int word = 0; word < 600; word += 5) {
            String want = "" + (char) ('a' + word / 26) + (char) ('a' + word % 26);
            Due.same("word " + word, desk.output(word * 3, word * 3 + 2), want);
        }
        Due.same("end", desk.output(676 * 3 - 1), 10);
    }

    private static void noneAreWrong() {
        Due.sentence("- if there are none. Words here");
        Desk desk = new Desk();
        desk.given("add cat", "add dog/S", "suffix S 0 s 0");
        desk.says("check cat", "-").says("check cat dog cat dogs", "-").says("check cat cat", "-");
    }

    private static void wordsOf1To28Letters() {
        Due.sentence("Words here, and in why, have 1 to 28 letters");
        Desk desk = new Desk();
        desk.says("check " + TWENTY_EIGHT, TWENTY_EIGHT).says("check z " + TWENTY_EIGHT, TWENTY_EIGHT + " z");
        desk.says("check " + TWENTY_EIGHT + "c", "? 7").says("check z " + TWENTY_EIGHT + "c", "? 9");
        desk.says("why " + TWENTY_EIGHT, "-").says("why " + TWENTY_EIGHT + "c", "? 5").says("why a", "-");
        desk.given("add " + SIXTEEN + "/A", "suffix A 0 qrstuv 0", "prefix A 0 wxyzab 0");
        desk.says("why wxyzab" + SIXTEEN + "qrstuv", "p1+" + SIXTEEN + "+s1");
        desk.says("why " + SIXTEEN + "qrstuv", SIXTEEN + "+s1").says("check wxyzab" + SIXTEEN, "-");
        desk.says("check " + SIXTEEN + "q", SIXTEEN + "q");
    }

    private static void wordsOf1To16Letters() {
        Due.sentence("(in drop and forms 1 to 16)");
        Desk desk = new Desk();
        desk.says("add " + SIXTEEN, "ok").says("forms " + SIXTEEN, SIXTEEN).says("forms a", "-").says("drop a", "none");
        desk.says("forms " + SIXTEEN + "q", "? 7").says("drop " + SIXTEEN + "q", "? 6");
        desk.says("forms " + TWENTY_EIGHT, "? 7").says("drop " + TWENTY_EIGHT, "? 6").says("count", "1 0 0");
        desk.says("drop " + SIXTEEN, "ok").says("drop " + SIXTEEN, "none").says("forms " + SIXTEEN, "-");
    }

    private static void entriesThatBegin() {
        Due.sentence("look p: all entries that begin with the word p");
        Desk desk = new Desk();
        desk.given("add cat/S", "add car", "add ca", "add c", "add dog", "add catalog", "add b", "suffix S 0 s 0");
        desk.says("look c", "c ca car cat catalog").says("look ca", "ca car cat catalog");
        desk.says("look cat", "cat catalog").says("look catalog", "catalog").says("look d", "dog");
        desk.says("look b", "b").says("look cata", "catalog");
    }

    private static void lookTakes1To16Letters() {
        Due.sentence("(1 to 16 letters), in order");
        Desk desk = new Desk();
        desk.says("add " + SIXTEEN, "ok").says("look " + SIXTEEN, SIXTEEN).says("look a", SIXTEEN);
        desk.says("look " + SIXTEEN + "q", "? 6").says("look abcdefghijklmno", SIXTEEN).says("look", "? 5");
        desk.says("look bbcdefghijklmnop", "-").says("look abcdefghijklmnoq", "-");
    }

    private static void lookFindsNone() {
        Due.sentence("in order; - for none.");
        Desk desk = new Desk();
        desk.says("look a", "-").says("look z", "-");
        desk.given("add cat/S", "add ca", "suffix S 0 s 0");
        desk.says("look cats", "-").says("look a", "-").says("look d", "-").says("look cz", "-").says("look caa", "-");
        desk.says("look cau", "-").says("look catalog", "-").says("look at", "-");
    }

    private static void lookAtAFullDictionary() {
        Due.sentence("look p: all entries that begin with the word p");
        Desk desk = Desk.withEntries(300);
        desk.says("look aa", "aa").says("look ln", "ln").says("look lo", "-").says("look m", "-");
        desk.says("look l", "la lb lc ld le lf lg lh li lj lk ll lm ln");

        // All 300 entries may begin with one word.
        Desk most = new Desk();
        for (int part = 0; part < 3; part++) {
            StringBuilder lines = new StringBuilder();
            for (int i = 100 * part; i < 100 * part + 100; i++) {
                lines.append("add xxx").append((char) ('a' + i / 26)).append((char) ('a' + i % 26)).append('\n');
            }
            most.given(lines.toString());
        }
        most.type("look xxx");
        most.run();
        Due.same("size() of 300 entries", most.size(), 300 * 6);
        Due.same("the first", most.output(0, 12), "xxxaa xxxab ");
        Due.same("the last", most.output(299 * 6 - 6, 300 * 6), "xxxlm xxxln\n");
    }
}
