/** Terms: how much the output holds, what is lost of it, and what a call that throws leaves. */
public final class TermsOutputTest {
    public static void main(String[] args) {
        atMost6000Characters();
        exactly6000Characters();
        lostCharacterByCharacter();
        lostFromEachPlaceOfALine();
        linesAreDoneAllTheSame();
        refusedTypeChangesNothing();
        refusedOutputChangesNothing();
        noSuchCharacter();
        Due.end();
    }

    /** Prints so many lines of "? 1", of four characters each. */
    private static Desk withFaults(int lines) {
        Desk desk = new Desk();
        for (int left = lines; left > 0; left -= 1024) {
            desk.type("?\n".repeat(Math.min(left, 1024)));
            desk.run();
        }
        return desk;
    }

    private static void atMost6000Characters() {
        Due.sentence("The OUTPUT has at most 6000 characters");
        Desk desk = withFaults(1499);
        Due.same("size() of 1499 lines", desk.size(), 5996);
        desk.type("count");
        desk.run();
        Due.same("size() behind six characters more", desk.size(), 6000);
        desk.type("count");
        desk.run();
        Due.same("size() when nothing fits", desk.size(), 6000);
        Due.same("the last characters", desk.output(5992, 6000), "? 1\n0 0 ");
        Due.same("output(6000)", desk.output(6000), -1);
    }

    private static void exactly6000Characters() {
        Due.sentence("The OUTPUT has at most 6000 characters");
        Desk desk = withFaults(1500);
        Due.same("size() of 1500 lines", desk.size(), 6000);
        Due.same("lost() of 1500 lines", desk.lost(), 0);
        Due.same("the last characters", desk.output(5996, 6000), "? 1\n");
        desk.type("\n  \n");
        desk.run();
        Due.same("lost() of lines that print nothing", desk.lost(), 0);
        desk.type("x");
        desk.run();
        Due.same("lost() of a line more", desk.lost(), 4);
    }

    private static void lostCharacterByCharacter() {
        Due.sentence("what does not fit any more is LOST, character by character");
        Desk desk = withFaults(1499);
        desk.type("look a");
        desk.run();
        Due.same("size() when a line fits", desk.size(), 5998);
        Due.same("lost() when a line fits", desk.lost(), 0);
        desk.type("add cat");
        desk.run();
        Due.same("size() when a line fits but for its end", desk.size(), 6000);
        Due.same("lost() of the end alone", desk.lost(), 1);
        Due.same("what fits of it", desk.output(5996, 6000), "-\nok");
        desk.type("look a\nlook c");
        desk.run();
        Due.same("lost() of lines that do not fit", desk.lost(), 1 + 2 + 4);
    }

    private static void lostFromEachPlaceOfALine() {
        Due.sentence("what does not fit any more is LOST, character by character");
        String printed = "p1+cat+s1\n";
        for (int room = 0; room <= printed.length(); room++) {
            Desk desk = new Desk();
            desk.given("add cat/A", "prefix A 0 un 0", "suffix A 0 s 0");
            for (int left = 6000 - room; left > 0; left -= 4096) {
                desk.type(printing(Math.min(left, 4096)));
                desk.run();
            }
            Due.same("size() with room for " + room, desk.size(), 6000 - room);
            desk.type("why uncats");
            desk.run();
            Due.same("size() behind it", desk.size(), 6000);
            Due.same("lost() with room for " + room, desk.lost(), printed.length() - room);
            Due.same("what fits", desk.output(6000 - room, 6000), printed.substring(0, room));
        }
    }

    /** Lines that print so many characters: "? 1" for four, and "? 10" or "? 100" for the rest. */
    private static String printing(int characters) {
        int rest = characters % 4;
        String lines = rest == 0 ? "" : rest == 1 ? " ".repeat(9) + "?\n" : rest == 2 ? " ".repeat(99) + "?\n"
            : " ".repeat(9) + "?\n" + " ".repeat(99) + "?\n";
        int printed = rest == 0 ? 0 : rest == 1 ? 5 : rest == 2 ? 6 : 11;
        return lines + "?\n".repeat((characters - printed) / 4);
    }

    private static void linesAreDoneAllTheSame() {
        Due.sentence("what does not fit any more is LOST, character by character");
        Desk desk = withFaults(1500);
        desk.type("add cat/A\nsuffix A 0 s 0\nprefix A 0 un 0\nadd dog\ndrop cat\nadd cow/A");
        Due.same("run()", desk.run(), 6);
        Due.same("lost()", desk.lost(), 6 * 3);
        Due.same("entries()", desk.entries(), 2);
        Due.same("rules(true)", desk.rules(true), 1);
        Due.same("rules(false)", desk.rules(false), 1);
        Due.same("typed()", desk.typed(), 0);
        desk.wipe().says("forms cow", "cow cows uncow uncows").says("look d", "dog");
    }

    /** Everything that can be asked of the desk but for the characters of its output. */
    private static String state(Desk desk) {
        return desk.typed() + " " + desk.size() + " " + desk.lost() + " "
            + desk.entries() + " " + desk.rules(true) + " " + desk.rules(false);
    }

    private static void refusedTypeChangesNothing() {
        Due.sentence("A call that throws changes nothing.");
        Desk desk = new Desk();
        desk.given("add cat/A", "suffix A 0 s 0", "prefix A 0 un 0");
        desk.type("count\nx");
        desk.run();
        desk.type("look c\n" + " ".repeat(2034) + "\nwhy");
        String before = state(desk);
        Due.same("typed() and the rest", before, "2045 10 0 1 1 1");
        Due.same("four when three fit", desk.typeThrows(0x20636174, 0, 0, 0), true);
        Due.same("four apart when three fit", desk.typeThrows(0x20000000, 0x00630000, 0x00006100, 0x00000074), true);
        Due.same("sixteen when three fit", desk.typeThrows(-1, -1, -1, -1), true);
        Due.same("all is as it was", state(desk), before);
        Due.same("the output is as it was", desk.output(), "1 1 1\n? 1\n");
        Due.same("three when three fit", desk.typeThrows(0, 0x20006300, 0, 0x73), false);
        Due.same("run()", desk.run(), 3);
        Due.same("nothing of what was refused is typed", desk.output(), "1 1 1\n? 1\ncat\n-\n");
        desk.wipe();
        desk.type("count");
        Due.same("a text that is empty takes characters again", desk.typed(), 5);
    }

    private static void refusedOutputChangesNothing() {
        Due.sentence("A call that throws changes nothing.");
        Desk desk = withFaults(1500);
        desk.type("add cat/A\nsuffix A 0 s 0\nprefix A 0 un 0");
        desk.run();
        desk.type("count");
        String before = state(desk);
        Due.same("lost() and the rest", before, "5 6000 9 1 1 1");
        for (int place : new int[] {-1, 6000, 6001, Integer.MIN_VALUE, Integer.MAX_VALUE}) {
            Due.same("output(" + place + ")", desk.output(place), -1);
        }
        Due.same("all is as it was", state(desk), before);
        Due.same("the output is as it was", desk.output(5996, 6000), "? 1\n");
        desk.wipe();
        Due.same("run()", desk.run(), 1);
        Due.same("the text is as it was", desk.output(), "1 1 1\n");
    }

    private static void noSuchCharacter() {
        Due.sentence("IndexOutOfBoundsException: there is no such character.");
        Desk desk = new Desk();
        Due.same("output(0) of none", desk.output(0), -1);
        desk.type("look a");
        desk.run();
        Due.same("output(-1)", desk.output(-1), -1);
        Due.same("output(0)", desk.output(0), (int) '-');
        Due.same("output(1)", desk.output(1), 10);
        Due.same("output(2)", desk.output(2), -1);
    }
}
