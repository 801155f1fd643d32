/** Promise 4: check and look. */
public final class Promise04CheckLookTest {
    private static final String TWENTY_EIGHT = "abcdefghijklmnopqrstuvwxyzab";

    public static void main(String[] args) {
        checking();
        longestForm();
        manyWords();
        looking();
        Due.end();
    }

    private static void checking() {
        Desk desk = new Desk();
        desk.says("check a", "a").says("check b a", "a b").says("check a b a b a", "a b");
        desk.says("check ab a abc b aa", "a aa ab abc b").says("check zz z za az", "az z za zz");
        desk.given("add cat", "add dog/S", "suffix S 0 s 0");
        desk.says("check cat", "-").says("check cat dog cat dogs", "-");
        desk.says("check cats cat dogs ca dog ca c", "c ca cats");
        desk.says("check " + TWENTY_EIGHT, TWENTY_EIGHT).says("check z " + TWENTY_EIGHT, TWENTY_EIGHT + " z");
        desk.says("count", "2 0 1");
    }

    private static void longestForm() {
        Desk desk = new Desk();
        desk.given("add ghijklmnopqrstuv/A", "prefix A 0 abcdef 0", "suffix A 0 wxyzab 0");
        desk.says("check " + TWENTY_EIGHT, "-").says("why " + TWENTY_EIGHT, "p1+ghijklmnopqrstuv+s1");
        desk.says("check abcdefghijklmnopqrstuvwxyzac", "abcdefghijklmnopqrstuvwxyzac");

        // Undone, the rules would ask for a word that is longer than any entry.
        desk.given("clear", "suffix A abcdef 0 0", "prefix A abcdef 0 0");
        desk.says("check " + TWENTY_EIGHT, TWENTY_EIGHT);
    }

    private static void manyWords() {
        Desk desk = new Desk();
        StringBuilder words = new StringBuilder("check");
        for (int i = 1020; i >= 0; i--) {
            words.append(' ').append((char) ('a' + i % 26));
        }
        desk.says(words.toString(), "a b c d e f g h i j k l m n o p q r s t u v w x y z");

        Desk other = new Desk();
        words = new StringBuilder("check");
        for (int i = 679; i >= 0; i--) {
            words.append(' ').append((char) ('a' + i / 26 % 26)).append((char) ('a' + i % 26));
        }
        other.type(words.toString());
        Due.same("run()", other.run(), 1);
        Due.same("each of 676 once", other.size(), 676 * 3);
        for (int i = 0; i < 120; i++) {
            int word = i * 5;
            Due.same("first letter of word " + word, other.output(word * 3), 'a' + word / 26);
            Due.same("second letter of word " + word, other.output(word * 3 + 1), 'a' + word % 26);
        }
        Due.same("end", other.output(676 * 3 - 1), 10);
    }

    private static void looking() {
        Desk desk = new Desk();
        desk.says("look a", "-");
        desk.given("add cat/S", "add car", "add ca", "add c", "add dog", "add catalog", "add b", "suffix S 0 s 0");
        desk.says("look c", "c ca car cat catalog").says("look ca", "ca car cat catalog");
        desk.says("look cat", "cat catalog").says("look cats", "-").says("look catalog", "catalog");
        desk.says("look catalogs", "-").says("look a", "-").says("look d", "dog").says("look e", "-");
        desk.says("look b", "b").says("look bb", "-").says("look cz", "-");
        desk.says("look abcdefghijklmnop", "-");
        desk.says("add abcdefghijklmnop", "ok").says("look abcdefghijklmnop", "abcdefghijklmnop");
    }
}
