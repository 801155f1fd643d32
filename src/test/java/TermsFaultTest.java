/** Terms: a line that is none prints the place of the first piece that can not stand there, and does nothing. */
public final class TermsFaultTest {
    private static final String SIXTEEN = "abcdefghijklmnop";
    private static final String TWENTY_EIGHT = "abcdefghijklmnopqrstuvwxyzab";

    public static void main(String[] args) {
        placesFrom1On();
        noSuchWord();
        wordsNotAsTold();
        flagsNotAsTold();
        rulesNotAsTold();
        tooMany();
        tooFew();
        tooFewWithSpacesBehind();
        firstOfSeveral();
        nothingIsDone();
        Due.end();
    }

    /** The line is at fault at that place, and neither entries nor rules are others behind it. */
    private static void fault(String line, int place) {
        Desk desk = new Desk();
        desk.given("add cat/S", "suffix S 0 s 0", "prefix S 0 un 0");
        desk.says(line, "? " + place);
        desk.says("count", "1 1 1").says("forms cat", "cat cats uncat uncats");
    }

    private static void placesFrom1On() {
        Due.sentence("prints ? and a space and the place (from 1 on) in the line of the first piece");
        fault("bogus", 1);
        fault(" bogus", 2);
        fault("   bogus cat", 4);
        fault("add  Cat", 6);
        fault("  add Cat", 7);

        Desk desk = new Desk();
        desk.type("add a\n x\n\nadd b c\n");
        desk.run();
        Due.same("places in later lines", desk.output(), "ok\n? 2\n? 7\n");

        Desk far = new Desk();
        far.type(" ".repeat(2047) + "x");
        far.run();
        Due.same("the farthest piece", far.output(), "? 2048\n");
        far.wipe();
        far.type(" ".repeat(8) + "x\n" + " ".repeat(9) + "x\n" + " ".repeat(98) + "x\n" + " ".repeat(99) + "x\n");
        far.run();
        Due.same("places of one to three digits", far.output(), "? 9\n? 10\n? 99\n? 100\n");
        far.wipe();
        far.type(" ".repeat(998) + "x\n" + " ".repeat(999) + "x\n");
        far.run();
        Due.same("places of three and four digits", far.output(), "? 999\n? 1000\n");
    }

    private static void noSuchWord() {
        Due.sentence("the first one, if it is no such word");
        for (String verb : new String[] {"Add", "adds", "ad", "a", "addcat", "add/S", "dropp", "pre", "prefixes",
            "suffi", "checks", "chec", "lookk", "whys", "wh", "form", "formss", "counts", "coun", "clea", "clearr",
            "CLEAR", "clear.", "0", "-", "?", "ok", "fix", "\u00e1dd"}) {
            fault(verb, 1);
            fault(verb + " dog", 1);
        }
    }

    private static void wordsNotAsTold() {
        Due.sentence("one that is not as told");
        for (String verb : new String[] {"drop", "look", "forms", "why", "check", "add"}) {
            int place = verb.length() + 2;
            for (String wrong : new String[] {"Cat", "caT", "c.t", "ca1", "0", "cat/", "/S", "`", "{", "."}) {
                fault(verb + " " + wrong, place);
            }
            fault(verb + " a" + TWENTY_EIGHT, place);
            fault(verb + "     a-b", place + 4);
        }
        for (String verb : new String[] {"drop", "look", "forms", "add"}) {
            fault(verb + " q" + SIXTEEN, verb.length() + 2);
        }
        for (String verb : new String[] {"drop", "look", "forms", "why", "check"}) {
            fault(verb + " cat/S", verb.length() + 2);
        }
        fault("add q" + SIXTEEN + "/S", 5);
        fault("check cat Dog", 11);
        fault("check cat cat 0", 15);
    }

    private static void flagsNotAsTold() {
        Due.sentence("one that is not as told");
        for (String wrong : new String[] {"/", "/s", "/SS", "/ABA", "/AB/", "//A", "/A.", "/@", "/[", "/A0", "A", "\\A",
            "/ABCDEFGHIJKLMNOPQRSTUVWXYZA"}) {
            fault("add dog" + wrong, 5);
            fault("add cat" + wrong, 5);
        }
    }

    private static void rulesNotAsTold() {
        Due.sentence("one that is not as told");
        for (String verb : new String[] {"prefix", "suffix"}) {
            for (String flag : new String[] {"s", "0", "AB", "@", "[", ".", "SS", "/S"}) {
                fault(verb + " " + flag + " 0 s 0", 8);
            }
            for (String part : new String[] {"00", ".", "abcdefg", "aB", "0a", "a0", "a.b", "-", "A", "1"}) {
                fault(verb + " S " + part + " s 0", 10);
                fault(verb + " S 0 " + part + " 0", 12);
            }
            for (String condition : new String[] {"00", ".0", "0.", ".......", "abcdefg", "A", "*", "a,", "1"}) {
                fault(verb + " S 0 s " + condition, 14);
            }
        }
    }

    private static void tooMany() {
        Due.sentence("one that is too many");
        fault("add dog cat", 9);
        fault("add dog/S  cat", 12);
        fault("add dog /S", 9);
        fault("drop cat dog", 10);
        fault("drop cat cat", 10);
        fault("prefix S 0 s 0 0", 16);
        fault("suffix S 0 s 0   more", 18);
        fault("look cat dog", 10);
        fault("why cat dog", 9);
        fault("forms cat dog", 11);
        fault("count 1", 7);
        fault("count count", 7);
        fault("clear all", 7);
        fault("clear  ?", 8);
    }

    private static void tooFew() {
        Due.sentence("one more than the length of the line, when there are too few");
        for (String verb : new String[] {"add", "drop", "prefix", "suffix", "check", "look", "why", "forms"}) {
            fault(verb, verb.length() + 1);
            fault("  " + verb, verb.length() + 3);
        }
        for (String verb : new String[] {"prefix", "suffix"}) {
            fault(verb + " S", 9);
            fault(verb + " S 0", 11);
            fault(verb + " S 0 s", 13);
            fault(verb + "  S  abcdef  ghi", 23);
        }
        Desk desk = new Desk();
        desk.type("add\n\nadd\n drop\ncount\nadd");
        desk.run();
        Due.same("lines with and without an end", desk.output(), "? 4\n? 4\n? 6\n0 0 0\n? 4\n");

        Desk far = new Desk();
        far.type(" ".repeat(2045) + "add");
        far.run();
        Due.same("a line as long as a text", far.output(), "? 2049\n");
    }

    private static void tooFewWithSpacesBehind() {
        Due.sentence("one more than the length of the line, when there are too few");
        fault("add ", 5);
        fault("add   ", 7);
        fault(" check  ", 9);
        fault("suffix S 0 s  ", 15);
        Desk desk = new Desk();
        desk.type("add  \nlook ");
        desk.run();
        Due.same("spaces before a line's end and a text's", desk.output(), "? 6\n? 6\n");
    }

    private static void firstOfSeveral() {
        Due.sentence("of the first piece that can not stand there");
        fault("add Cat dog", 5);
        fault("add dog/SS dog", 5);
        fault("bogus Cat", 1);
        fault("suffix s 00", 8);
        fault("suffix S 00 s", 10);
        fault("suffix S 00 S A more", 10);
        fault("prefix S 0 S 0 more", 12);
        fault("prefix S 0 s A more", 14);
        fault("check a B c D", 9);
        fault("check cat dog cow d1 e2", 19);
        fault("check a " + TWENTY_EIGHT + "c", 9);
        fault("look 1 2", 6);
    }

    private static void nothingIsDone() {
        Due.sentence("Nothing is done then.");
        Desk desk = new Desk();
        desk.given("add cat/S", "suffix S 0 s 0");
        desk.says("add cat/A dog", "? 11").says("forms cat", "cat cats").says("add cat/AA", "? 5");
        desk.says("forms cat", "cat cats").says("add dog dog", "? 9").says("look d", "-").says("drop cat x", "? 10");
        desk.says("look c", "cat").says("clear x", "? 7").says("suffix S 0 t 0 0", "? 16").says("why catt", "-");
        desk.says("prefix S 0 un", "? 14").says("why uncat", "-").says("check x y Z", "? 11").says("count", "1 0 1");

        // Not even words that stand before the fault come into a later check.
        desk.says("check b a 0", "? 11").says("check c", "c").says("check cat", "-");
    }
}
