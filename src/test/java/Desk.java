/** A SpellDesk that is typed to and read in texts; it keeps its test to the 512 calls that are promised. */
final class Desk {
    private static final int CALLS = 512;

    private final SpellDesk desk = new SpellDesk();
    private int calls = 0;

    /** A desk with so many entries, the first of aa, ab .. zz. */
    static Desk withEntries(int count) {
        Desk desk = new Desk();
        StringBuilder lines = new StringBuilder();
        for (int i = 0; i < count; i++) {
            lines.append("add ").append((char) ('a' + i / 26)).append((char) ('a' + i % 26)).append('\n');
            if (i % 250 == 249 || i == count - 1) {
                desk.type(lines.toString());
                desk.run();
                lines.setLength(0);
            }
        }
        Due.same("size() when " + count + " were added", desk.size(), count * "ok\n".length());
        return desk.wipe();
    }

    private SpellDesk called() {
        calls++;
        if (calls == CALLS + 1) {
            Due.same("the calls of one object", calls, CALLS);
        }
        return desk;
    }

    int calls() {
        return calls;
    }

    /** Whether the call threw. */
    boolean typeThrows(int a, int b, int c, int d) {
        try {
            called().type(a, b, c, d);
            return false;
        } catch (IllegalStateException e) {
            isAsPromised(e, IllegalStateException.class);
            return true;
        }
    }

    /** An exception of a class below the promised one comes from the Java machine, which must never throw. */
    private static void isAsPromised(RuntimeException thrown, Class<?> promised) {
        Due.same("the exception", thrown.getClass(), promised);
    }

    Desk type(String text) {
        for (int i = 0; i < text.length(); i += 16) {
            if (typeThrows(four(text, i), four(text, i + 4), four(text, i + 8), four(text, i + 12))) {
                Due.same("typing " + text, "IllegalStateException", "nothing thrown");
            }
        }
        return this;
    }

    private static int four(String text, int from) {
        int four = 0;
        for (int i = from; i < from + 4; i++) {
            four = four << 8 | (i < text.length() ? text.charAt(i) : 0);
        }
        return four;
    }

    int run() {
        return called().run();
    }

    int typed() {
        return called().typed();
    }

    int size() {
        return called().size();
    }

    /** The character, or -1 when the call threw. */
    int output(int i) {
        try {
            return called().output(i);
        } catch (IndexOutOfBoundsException e) {
            isAsPromised(e, IndexOutOfBoundsException.class);
            return -1;
        }
    }

    int lost() {
        return called().lost();
    }

    Desk wipe() {
        called().wipe();
        return this;
    }

    int entries() {
        return called().entries();
    }

    int rules(boolean prefixes) {
        return called().rules(prefixes);
    }

    String output() {
        return output(0, size());
    }

    String output(int from, int to) {
        StringBuilder part = new StringBuilder();
        for (int i = from; i < to; i++) {
            part.append((char) output(i));
        }
        return part.toString();
    }

    /** Types these lines and runs them, with no word about what they print. */
    Desk given(String... lines) {
        type(String.join("\n", lines) + "\n");
        run();
        wipe();
        return this;
    }

    /** Types one line, runs it, and looks at all that it prints. */
    Desk says(String line, String want) {
        type(line + "\n");
        Due.same("run of '" + line + "'", run(), 1);
        Due.same("'" + line + "'", output(), want + "\n");
        wipe();
        return this;
    }
}
