import java.util.Objects;

/** Counts the answers that are not the ones due, and ends a test with them. */
final class Due {
    /** What is longer is told in part, as a text may have 2048 characters. */
    private static final int TOLD = 300;

    private static int asked = 0;
    private static int wrong = 0;
    private static String sentence = "";

    private Due() {
    }

    /** Names the words of the document that the answers from here on are due by; SentenceIndexTest finds them there. */
    static void sentence(String words) {
        sentence = words;
    }

    static void same(String what, Object got, Object want) {
        asked++;
        if (!Objects.equals(got, want)) {
            wrong++;
            System.out.println("\"" + sentence + "\": " + shown(what) + " answered " + shown(got) + ", due is "
                + shown(want));
        }
    }

    static void end() {
        System.out.println(asked + " answers, " + wrong + " not as due");
        System.exit(wrong == 0 && asked > 0 ? 0 : 1);
    }

    private static String shown(Object answer) {
        String all = String.valueOf(answer).replace("\n", "\\n");
        return all.length() > TOLD ? all.substring(0, TOLD) + ".." : all;
    }
}
