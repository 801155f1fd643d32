import java.util.Objects;

/** Counts the answers that are not the ones due, and ends a test with them. */
final class Due {
    private static int asked = 0;
    private static int wrong = 0;

    private Due() {
    }

    static void same(String what, Object got, Object want) {
        asked++;
        if (!Objects.equals(got, want)) {
            wrong++;
            System.out.println(what + " answered " + shown(got) + ", due is " + shown(want));
        }
    }

    static void end() {
        System.out.println(asked + " answers, " + wrong + " not as due");
        System.exit(wrong == 0 && asked > 0 ? 0 : 1);
    }

    private static String shown(Object answer) {
        return String.valueOf(answer).replace("\n", "\\n");
    }
}
