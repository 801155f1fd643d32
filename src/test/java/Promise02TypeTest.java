/** Promise 2: sixteen characters come behind the text, but for zeros; more than 2048 are refused whole. */
public final class Promise02TypeTest {
    private static final int ADD_ = 0x61646420;
    private static final int SPACES = 0x20202020;

    public static void main(String[] args) {
        highestByteFirst();
        zerosAreLeftOut();
        allBytesAreCharacters();
        limit();
        zerosFitAnyTime();
        Due.end();
    }

    private static void highestByteFirst() {
        Desk desk = new Desk();
        desk.typeThrows(ADD_, 0x61626364, 0x65666768, 0x696a6b6c);
        desk.run();
        desk.wipe().says("look a", "abcdefghijkl");
    }

    private static void zerosAreLeftOut() {
        Desk desk = new Desk();
        desk.typeThrows(0, 0, 0, 0);
        Due.same("zeros alone", desk.typed(), 0);
        desk.typeThrows(0x61006464, 0x00200000, 0x00000062, 0x61000000);
        Due.same("zeros between", desk.typed(), 6);
        desk.run();
        desk.wipe().says("look b", "ba");
    }

    private static void allBytesAreCharacters() {
        Desk desk = new Desk();
        desk.typeThrows(-1, 0x80818283, 0x01020304, 0xFF00FF00);
        Due.same("bytes above 127 and below 32", desk.typed(), 14);
        Due.same("one line of them", desk.run(), 1);
        Due.same("what it prints", desk.output(), "? 1\n");
        desk.wipe();
        desk.typeThrows(ADD_, 0x636174E1, 0, 0);
        desk.run();
        Due.same("a letter with its high bit", desk.output(), "? 5\n");
    }

    private static void limit() {
        Desk desk = new Desk();
        for (int i = 0; i < 127; i++) {
            Due.same("type " + i, desk.typeThrows(SPACES, SPACES, SPACES, SPACES), false);
        }
        Due.same("typed()", desk.typed(), 2032);
        Due.same("one more character", desk.typeThrows(0, 0x0A000000, 0, 0), false);
        Due.same("sixteen when fifteen fit", desk.typeThrows(ADD_, ADD_, ADD_, ADD_), true);
        Due.same("typed() behind what threw", desk.typed(), 2033);
        Due.same("fifteen", desk.typeThrows(ADD_, ADD_, ADD_, 0x61646400), false);
        Due.same("typed() of a full text", desk.typed(), 2048);
        Due.same("one when none fits", desk.typeThrows(0, 0, 0, 1), true);
        Due.same("typed() is the same", desk.typed(), 2048);
        Due.same("zeros into a full text", desk.typeThrows(0, 0, 0, 0), false);
        Due.same("run()", desk.run(), 2);
        Due.same("nothing of what threw was typed", desk.output(), "? 9\n");
        Due.same("typing behind a run", desk.typeThrows(ADD_, ADD_, ADD_, ADD_), false);
        Due.same("typed() behind a run", desk.typed(), 16);
    }

    private static void zerosFitAnyTime() {
        Desk desk = new Desk();
        for (int i = 0; i < 127; i++) {
            desk.typeThrows(SPACES, SPACES, SPACES, SPACES);
        }
        Due.same("eight of 2040", desk.typeThrows(SPACES, SPACES, 0, 0), false);
        Due.same("eight with zeros between", desk.typeThrows(0x20002000, 0x20002000, 0x00200020, 0x20200000), false);
        Due.same("typed()", desk.typed(), 2048);
    }
}
