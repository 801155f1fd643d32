/** A SpellDesk that is typed to and read in texts; it keeps its test to the 512 calls that are promised. */
final class Desk {
    private static final int CALLS = 512;

    private final SpellDesk desk = new SpellDesk();
    private int calls = 0;

    private SpellDesk called() {
        calls++;
        if (calls == CALLS + 1) {
            Due.same("the calls of one object", calls, CALLS);
        }
        return desk;
    }

    /** Whether the call threw. */
    boolean typeThrows(int a, int b, int c, int d) {
        try {
            called().type(a, b, c, d);
            return false;
        } catch (IllegalStateException e) {
            return true;
        }
    }

    Desk type(String text) {
        for (int i = 0; i < text.length(); i += 16) {
            if (typeThrows(four(text, i), four(text, i + 4), four(text, i + 8), four(text, i + 12))) {
                Due.same("typing " + text, "IllegalStateException", "nothing thrown");
            }
        }
        return this;
    }

    private static int four(String text, int from) {
        int four = 0;
        for (int i = from; i < from + 4; i++) {
            four = four << 8 | (i < text.length() ? text.charAt(i) : 0);
        }
        return four;
    }

    int run() {
        return called().run();
    }

    int typed() {
        return called().typed();
    }

    int size() {
        return called().size();
    }

    /** The character, or -1 when the call threw. */
    int output(int i) {
        try {
            return called().output(i);
        } catch (IndexOutOfBoundsException e) {
            return -1;
        }
    }

    int lost() {
        return called().lost();
    }

    Desk wipe() {
        called().wipe();
        return this;
    }

    int entries() {
        return called().entries();
    }

    int rules(boolean prefixes) {
        return called().rules(prefixes);
    }

    String output() {
        StringBuilder all = new StringBuilder();
        int size = size();
        for (int i = 0; i < size; i++) {
            all.append((char) output(i));
        }
        return all.toString();
    }

    /** Types these lines and runs them, with no word about what they print. */
    Desk given(String... lines) {
        type(String.join("\n", lines) + "\n");
        run();
        wipe();
        return this;
    }

    /** Types one line, runs it, and looks at all that it prints. */
    Desk says(String line, String want) {
        type(line + "\n");
        Due.same("run of '" + line + "'", run(), 1);
        Due.same("'" + line + "'", output(), want + "\n");
        wipe();
        return this;
    }
}
