/** Promise 2: sixteen characters come behind the text, but for zeros; more than 2048 are refused whole. */
public final class Promise02TypeTest {
    private static final int ADD_ = 0x61646420;
    private static final int SPACES = 0x20202020;

    public static void main(String[] args) {
        highestByteFirst();
        behindTheText();
        bytesOfNegativeInts();
        zerosAreLeftOut();
        aZeroInEachPlace();
        refusedAbove2048();
        zerosAreNotCounted();
        refusedFromEachLength();
        Due.end();
    }

    private static void highestByteFirst() {
        Due.sentence("Sixteen characters come behind the text, the highest byte of each int first");
        Desk desk = new Desk();
        desk.typeThrows(ADD_, 0x61626364, 0x65666768, 0x696a6b6c);
        Due.same("typed()", desk.typed(), 16);
        desk.run();
        desk.wipe().says("look a", "abcdefghijkl");
    }

    private static void behindTheText() {
        Due.sentence("Sixteen characters come behind the text");
        Desk desk = new Desk();
        desk.typeThrows(ADD_, 0x61000000, 0, 0);
        desk.typeThrows(0x62000000, 0x63000000, 0x64000000, 0x65000000);
        desk.typeThrows(0, 0, 0, 0x660A636F);
        desk.typeThrows(0x756E7400, 0, 0, 0);
        desk.run();
        Due.same("output", desk.output(), "ok\n1 0 0\n");
        desk.wipe().says("look a", "abcdef");
    }

    private static void bytesOfNegativeInts() {
        Due.sentence("the highest byte of each int first");
        Desk desk = new Desk();
        desk.typeThrows(-1, 0x80818283, 0x01020304, 0xFF00FF00);
        Due.same("typed() of bytes above 127 and below 32", desk.typed(), 14);
        Due.same("one line of them", desk.run(), 1);
        Due.same("what it prints", desk.output(), "? 1\n");
        desk.wipe();
        desk.typeThrows(ADD_, 0x636174E1, 0, 0);
        desk.run();
        Due.same("a letter with its high bit", desk.output(), "? 5\n");
        desk.wipe();
        desk.typeThrows(Integer.MIN_VALUE, Integer.MAX_VALUE, 0, 0);
        Due.same("typed() of the lowest int and the highest", desk.typed(), 1 + 4);
        Due.same("run()", desk.run(), 1);
        desk.wipe();
        desk.typeThrows(0x8A8A8A8A, 0xA0A0A0A0, 0, 0);
        Due.same("10 and 32 with a high bit are neither", desk.run(), 1);
        Due.same("but a piece", desk.output(), "? 1\n");
    }

    private static void zerosAreLeftOut() {
        Due.sentence("those that are 0 are left out");
        Desk desk = new Desk();
        desk.typeThrows(0, 0, 0, 0);
        Due.same("typed() of zeros alone", desk.typed(), 0);
        Due.same("run() of zeros alone", desk.run(), 0);
        desk.typeThrows(0x61006464, 0x00200000, 0x00000062, 0x61000000);
        Due.same("typed() with zeros between", desk.typed(), 6);
        desk.run();
        desk.wipe().says("look b", "ba");
    }

    private static void aZeroInEachPlace() {
        Due.sentence("those that are 0 are left out");
        Desk desk = new Desk();
        for (int place = 0; place < 16; place++) {
            int[] fours = {0, 0, 0, 0};
            fours[place / 4] = 'x' << 24 - 8 * (place % 4);
            desk.typeThrows(fours[0], fours[1], fours[2], fours[3]);
            Due.same("typed() with one character at place " + place, desk.typed(), 1);
            desk.typeThrows(SPACES ^ fours[0], SPACES ^ fours[1], SPACES ^ fours[2], SPACES ^ fours[3]);
            Due.same("typed() behind sixteen more", desk.typed(), 17);
            desk.run();
        }
    }

    private static void refusedAbove2048() {
        Due.sentence("IllegalStateException when it would have more than 2048.");
        Desk desk = new Desk();
        for (int i = 0; i < 127; i++) {
            Due.same("type " + i, desk.typeThrows(SPACES, SPACES, SPACES, SPACES), false);
        }
        Due.same("typed()", desk.typed(), 2032);
        Due.same("one more character", desk.typeThrows(0, 0x0A000000, 0, 0), false);
        Due.same("sixteen when fifteen fit", desk.typeThrows(ADD_, ADD_, ADD_, ADD_), true);
        Due.same("typed() behind what threw", desk.typed(), 2033);
        Due.same("fifteen", desk.typeThrows(ADD_, ADD_, ADD_, 0x61646400), false);
        Due.same("typed() of a full text", desk.typed(), 2048);
        Due.same("one when none fits", desk.typeThrows(0, 0, 0, 1), true);
        Due.same("typed() is the same", desk.typed(), 2048);
        Due.same("run()", desk.run(), 2);
        Due.same("nothing of what threw was typed", desk.output(), "? 9\n");
        Due.same("typing behind a run", desk.typeThrows(ADD_, ADD_, ADD_, ADD_), false);
        Due.same("typed() behind a run", desk.typed(), 16);
    }

    private static void zerosAreNotCounted() {
        Due.sentence("IllegalStateException when it would have more than 2048.");
        Desk desk = new Desk();
        for (int i = 0; i < 127; i++) {
            desk.typeThrows(SPACES, SPACES, SPACES, SPACES);
        }
        Due.same("eight of 2040", desk.typeThrows(SPACES, SPACES, 0, 0), false);
        Due.same("eight with zeros between", desk.typeThrows(0x20002000, 0x20002000, 0x00200020, 0x20200000), false);
        Due.same("typed()", desk.typed(), 2048);
        Due.same("zeros into a full text", desk.typeThrows(0, 0, 0, 0), false);
        Due.same("typed() is the same", desk.typed(), 2048);
    }

    private static void refusedFromEachLength() {
        Due.sentence("IllegalStateException when it would have more than 2048.");
        for (int length = 2030; length <= 2048; length++) {
            Desk desk = new Desk();
            desk.type("x".repeat(length));
            Due.same("typed()", desk.typed(), length);
            Due.same("sixteen behind " + length, desk.typeThrows(ADD_, ADD_, ADD_, ADD_), length > 2032);
            Due.same("typed() behind them", desk.typed(), length > 2032 ? length : length + 16);
        }
    }
}
