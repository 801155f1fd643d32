import java.io.IOException;
import java.nio.file.Files;
import java.nio.file.Path;
import java.util.regex.Matcher;
import java.util.regex.Pattern;

/** What README.md shows of the class is what the class does. */
public final class ReadmeTest {
    private static final Path README = Path.of("README.md");
    private static final Pattern TYPE = Pattern.compile(
        "desk\\.type\\((\\w+), (\\w+), (\\w+), (\\w+)\\); *// ([^\n]+)");
    private static final Pattern LINES_RUN = Pattern.compile("desk\\.run\\(\\); *// (\\d+) lines");
    private static final Pattern PRINTED = Pattern.compile("desk\\.output\\(i\\)\\); *// ([^\n]+)");
    private static final Pattern ANSWERED = Pattern.compile("\n> ([^\n]+)\n([^\n]+)");

    public static void main(String[] args) throws IOException {
        String readme = Files.readString(README);
        callsUnderUse(readme);
        linesOfANewDesk(readme);
        Due.end();
    }

    private static void callsUnderUse(String readme) {
        Desk desk = new Desk();
        Desk told = new Desk();
        Matcher type = TYPE.matcher(readme);
        while (type.find()) {
            desk.typeThrows(number(type.group(1)), number(type.group(2)), number(type.group(3)), number(type.group(4)));
            told.type(type.group(5) + "\n");
            Due.same("typed() of the calls and of their comments", desk.typed(), told.typed());
        }
        Due.same("run()", desk.run(), Integer.parseInt(only(LINES_RUN, readme)));
        told.run();
        Due.same("the output", desk.output(), only(PRINTED, readme).replace(", ", "\n") + "\n");
        Due.same("the output of the comments", told.output(), desk.output());
    }

    private static void linesOfANewDesk(String readme) {
        Desk desk = new Desk();
        Matcher answered = ANSWERED.matcher(readme);
        int lines = 0;
        while (answered.find()) {
            desk.says(answered.group(1), answered.group(2));
            lines++;
        }
        Due.same("lines are shown", lines > 0, true);
    }

    private static int number(String written) {
        return Long.decode(written).intValue();
    }

    private static String only(Pattern pattern, String readme) {
        Matcher matcher = pattern.matcher(readme);
        Due.same("README.md has " + pattern, matcher.find(), true);
        return matcher.group(1);
    }
}
