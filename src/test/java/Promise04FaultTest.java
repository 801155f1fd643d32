/** Promise 4: a line that is none prints the place of the first piece that can not stand there, and does nothing. */
public final class Promise04FaultTest {
    private static final String SIXTEEN = "abcdefghijklmnop";
    private static final String TWENTY_EIGHT = "abcdefghijklmnopqrstuvwxyzab";

    public static void main(String[] args) {
        firstPiece();
        words();
        flags();
        rules();
        tooMany();
        tooFew();
        firstOfSeveral();
        Due.end();
    }

    private static void fault(String line, int place) {
        Desk desk = new Desk();
        desk.given("add cat/S", "suffix S 0 s 0", "prefix S 0 un 0");
        desk.says(line, "? " + place);
        desk.says("count", "1 1 1").says("forms cat", "cat cats uncat uncats");
    }

    private static void firstPiece() {
        fault("bogus", 1);
        fault("   bogus cat", 4);
        fault("Add cat", 1);
        fault("adds cat", 1);
        fault("ad cat", 1);
        fault("addcat", 1);
        fault("add/S cat", 1);
        fault("0", 1);
        fault("-", 1);
        fault("CLEAR", 1);
        fault("clear.", 1);
    }

    private static void words() {
        for (String verb : new String[] {"drop", "look", "forms", "why", "check", "add"}) {
            int place = verb.length() + 2;
            fault(verb + " Cat", place);
            fault(verb + " caT", place);
            fault(verb + " c.t", place);
            fault(verb + " ca1", place);
            fault(verb + " 0", place);
            fault(verb + " cat/", place);
            fault(verb + " /S", place);
            fault(verb + " `", place);
            fault(verb + " {", place);
            fault(verb + " a" + TWENTY_EIGHT, place);
            fault(verb + "     a-b", place + 4);
        }
        for (String verb : new String[] {"drop", "look", "forms", "add"}) {
            fault(verb + " q" + SIXTEEN, verb.length() + 2);
        }
        fault("drop cat/S", 6);
        fault("add q" + SIXTEEN + "/S", 5);
    }

    private static void flags() {
        fault("add dog/", 5);
        fault("add dog/s", 5);
        fault("add dog/SS", 5);
        fault("add dog/ABA", 5);
        fault("add dog/AB/", 5);
        fault("add dog//A", 5);
        fault("add dog/A.", 5);
        fault("add dog/@", 5);
        fault("add dog/[", 5);
        fault("add dog/ABCDEFGHIJKLMNOPQRSTUVWXYZA", 5);
        fault("add dogA", 5);
        fault("add dog /A", 9);
    }

    private static void rules() {
        for (String verb : new String[] {"prefix", "suffix"}) {
            fault(verb + " s 0 s 0", 8);
            fault(verb + " 0 0 s 0", 8);
            fault(verb + " AB 0 s 0", 8);
            fault(verb + " @ 0 s 0", 8);
            fault(verb + " [ 0 s 0", 8);
            fault(verb + " S 00 s 0", 10);
            fault(verb + " S . s 0", 10);
            fault(verb + " S abcdefg s 0", 10);
            fault(verb + " S aB s 0", 10);
            fault(verb + " S 0a s 0", 10);
            fault(verb + " S 0 a.b 0", 12);
            fault(verb + " S 0 abcdefg 0", 12);
            fault(verb + " S 0 - 0", 12);
            fault(verb + " S 0 s 00", 14);
            fault(verb + " S 0 s .0", 14);
            fault(verb + " S 0 s .......", 14);
            fault(verb + " S 0 s A", 14);
            fault(verb + " S 0 s *", 14);
        }
    }

    private static void tooMany() {
        fault("add dog cat", 9);
        fault("add dog/S  cat", 12);
        fault("drop cat dog", 10);
        fault("prefix S 0 s 0 0", 16);
        fault("suffix S 0 s 0   more", 18);
        fault("look cat dog", 10);
        fault("why cat dog", 9);
        fault("forms cat dog", 11);
        fault("count 1", 7);
        fault("clear all", 7);
        fault("clear  ?", 8);
    }

    private static void tooFew() {
        fault("add", 4);
        fault("drop", 5);
        fault("prefix", 7);
        fault("prefix S", 9);
        fault("prefix S 0", 11);
        fault("suffix S 0 s", 13);
        fault("check", 6);
        fault("look", 5);
        fault("why", 4);
        fault("forms", 6);
        fault("  add", 6);
        fault("add ", 5);
        fault("add   ", 7);
        fault(" check  ", 9);
        fault("suffix S 0 s  ", 15);
        Desk desk = new Desk();
        desk.type("count\nadd");
        desk.run();
        Due.same("a last line without its end", desk.output(), "0 0 0\n? 4\n");
    }

    private static void firstOfSeveral() {
        fault("add Cat dog", 5);
        fault("suffix s 00", 8);
        fault("suffix S 00 s", 10);
        fault("prefix S 0 S 0 more", 12);
        fault("check a B c D", 9);
        fault("check cat dog cow d1 e2", 19);
        fault("check a " + TWENTY_EIGHT + "c", 9);
        fault("look 1 2", 6);

        Desk desk = new Desk();
        desk.type(" ".repeat(2040) + "add");
        desk.run();
        Due.same("a long line", desk.output(), "? 2044\n");
    }
}
