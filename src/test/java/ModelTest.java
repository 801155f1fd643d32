import java.util.Random;

/** Chance runs, always the same ones, on the desk and on the model. */
public final class ModelTest {
    private static final int TEXT_LIMIT = 2048;
    private static final int OUTPUT_LIMIT = 6000;
    private static final String[] VERBS = {"add", "add", "add", "add", "drop", "prefix", "prefix", "suffix", "suffix",
        "check", "check", "look", "why", "why", "forms", "forms", "count"};

    private final Random chance;
    private final int alphabet;

    private ModelTest(long seed) {
        chance = new Random(seed);
        alphabet = 1 + chance.nextInt(3);
    }

    public static void main(String[] args) {
        for (int seed = 1; seed <= 4000; seed++) {
            new ModelTest(seed).shortRun("run " + seed);
        }
        for (int seed = 1; seed <= 200; seed++) {
            new ModelTest(-seed).longRun("long run " + seed);
        }
        for (int seed = 1; seed <= 200; seed++) {
            new ModelTest(seed).byteRun("byte run " + seed);
        }
        Due.end();
    }

    /** Few lines, all of whose output is looked at. */
    private void shortRun(String name) {
        Desk desk = new Desk();
        Model model = new Model();
        for (int part = 0; part < 3; part++) {
            String text = text(100 + chance.nextInt(200));
            desk.type(text);
            Due.same(name + ": typed()", desk.typed(), text.length());
            Due.same(name + ": run() of " + text, desk.run(), model.run(text));
            String printed = model.output();
            Due.same(name + ": size()", desk.size(), printed.length());
            look(desk, name, printed, 0, Math.min(printed.length(), 110));
            desk.wipe();
            model.wipe();
            state(desk, model, name);
        }
    }

    /** Full texts, some of whose output is looked at and some is lost. */
    private void longRun(String name) {
        Desk desk = new Desk();
        Model model = new Model();
        for (int part = 0; part < 3; part++) {
            String text = text(2000);
            desk.type(text);
            Due.same(name + ": run()", desk.run(), model.run(text));
            String printed = model.output();
            int kept = Math.min(printed.length(), OUTPUT_LIMIT);
            Due.same(name + ": size()", desk.size(), kept);
            Due.same(name + ": lost()", desk.lost(), printed.length() - kept);
            Due.same(name + ": output(" + kept + ")", desk.output(kept), -1);
            int from = chance.nextInt(Math.max(1, kept - 30));
            look(desk, name, printed, from, Math.min(kept, from + 30));
            state(desk, model, name);
        }
    }

    /** Any bytes, spaces and line ends among them, until they are refused. */
    private void byteRun(String name) {
        Desk desk = new Desk();
        Model model = new Model();
        StringBuilder text = new StringBuilder();
        for (int i = 0; i < 200; i++) {
            int[] fours = {four(), four(), four(), four()};
            String more = characters(fours);
            boolean refused = text.length() + more.length() > TEXT_LIMIT;
            Due.same(name + ": type " + i, desk.typeThrows(fours[0], fours[1], fours[2], fours[3]), refused);
            text.append(refused ? "" : more);
        }
        Due.same(name + ": typed()", desk.typed(), text.length());
        Due.same(name + ": run()", desk.run(), model.run(text.toString()));
        String printed = model.output();
        Due.same(name + ": size()", desk.size(), Math.min(printed.length(), OUTPUT_LIMIT));
        look(desk, name, printed, 0, Math.min(printed.length(), 250));
    }

    private int four() {
        int four = 0;
        for (int i = 0; i < 4; i++) {
            int[] choices = {0, ' ', '\n', 'a' + chance.nextInt(26), chance.nextInt(256), chance.nextInt(256)};
            four = four << 8 | choices[chance.nextInt(choices.length)];
        }
        return four;
    }

    private static String characters(int[] fours) {
        StringBuilder characters = new StringBuilder();
        for (int four : fours) {
            for (int i = 0; i < 4; i++) {
                int character = four >>> 24 - 8 * i & 255;
                characters.append(character == 0 ? "" : (char) character);
            }
        }
        return characters.toString();
    }

    private static void look(Desk desk, String name, String printed, int from, int to) {
        StringBuilder got = new StringBuilder();
        for (int i = from; i < to; i++) {
            got.append((char) desk.output(i));
        }
        Due.same(name + ": output from " + from, got.toString(), printed.substring(from, to));
    }

    private static void state(Desk desk, Model model, String name) {
        Due.same(name + ": entries()", desk.entries(), model.entries());
        Due.same(name + ": rules(true)", desk.rules(true), model.rules(true));
        Due.same(name + ": rules(false)", desk.rules(false), model.rules(false));
    }

    private String text(int most) {
        StringBuilder text = new StringBuilder();
        while (true) {
            String line = spoiled(line());
            if (text.length() + line.length() + 1 > most) {
                break;
            }
            text.append(line).append('\n');
        }
        if (chance.nextInt(3) == 0 && text.length() > 0) {
            text.setLength(text.length() - 1);
        }
        return text.toString();
    }

    private String line() {
        String verb = VERBS[chance.nextInt(VERBS.length)];
        switch (verb) {
            case "add":
                return "add " + word(1, 16) + (chance.nextInt(4) == 0 ? "" : "/" + flags());
            case "prefix":
            case "suffix":
                return verb + " " + flag() + " " + part(2, false) + " " + part(3, false) + " " + part(2, true);
            case "check":
                StringBuilder line = new StringBuilder(verb);
                for (int i = chance.nextInt(6); i >= 0; i--) {
                    line.append(' ').append(word(1, 28));
                }
                return line.toString();
            case "count":
                return chance.nextInt(20) == 0 ? "clear" : verb;
            default:
                return verb + " " + word(1, verb.equals("why") ? 28 : 16);
        }
    }

    /** Short words of few letters for the most part, so that words meet. */
    private String word(int least, int most) {
        return letters(chance.nextInt(12) == 0 ? most - 1 + chance.nextInt(3) : least + chance.nextInt(4));
    }

    private String letters(int length) {
        StringBuilder word = new StringBuilder();
        for (int i = 0; i < length; i++) {
            word.append((char) ('a' + chance.nextInt(alphabet)));
        }
        return word.toString();
    }

    private String part(int usual, boolean points) {
        if (chance.nextInt(3) == 0) {
            return "0";
        }
        int length = chance.nextInt(15) == 0 ? 5 + chance.nextInt(3) : 1 + chance.nextInt(usual);
        String part = letters(length);
        return points && chance.nextInt(2) == 0 ? "." + part.substring(1) : part;
    }

    private char flag() {
        return (char) ('A' + chance.nextInt(3));
    }

    private String flags() {
        String[] choices = {"A", "B", "C", "AB", "BA", "AC", "ABC", "CBA", "ABCDEFGHIJKLMNOPQRSTUVWXYZ"};
        return choices[chance.nextInt(choices.length)];
    }

    /** Now and then a line that is none, or one with more spaces. */
    private String spoiled(String line) {
        StringBuilder other = new StringBuilder(line);
        int place = chance.nextInt(line.length() + 1);
        switch (chance.nextInt(14)) {
            case 0:
                other.insert(place, ' ');
                break;
            case 1:
                other.insert(place, "AZaz09./@[`{\t\u0001\u00ff\n-".charAt(chance.nextInt(17)));
                break;
            case 2:
                other.setLength(place);
                break;
            case 3:
                other.append(" ").append(line, place, line.length());
                break;
            case 4:
                return line.replace(" ", "   ") + "  ";
            default:
                break;
        }
        return other.toString();
    }
}
