import java.util.ArrayList;
import java.util.List;
import java.util.TreeMap;
import java.util.TreeSet;

/** The document in its most direct words: every question is answered by making all forms of all entries. */
final class Model {
    private record Rule(boolean front, String flag, String strip, String add, String condition) {
        boolean goesWith(String word, String flags) {
            String any = condition;
            return flags.contains(flag)
                && (front ? word.startsWith(strip) : word.endsWith(strip))
                && word.matches(front ? any + ".*" : ".*" + any);
        }
    }

    private record Way(String form, String told) {
    }

    private static final class Fault extends Exception {
        private static final long serialVersionUID = 1L;
        final int place;

        Fault(int place) {
            this.place = place;
        }
    }

    private final TreeMap<String, String> flagsOf = new TreeMap<>();
    private final List<Rule> prefixes = new ArrayList<>();
    private final List<Rule> suffixes = new ArrayList<>();
    private final StringBuilder output = new StringBuilder();

    int entries() {
        return flagsOf.size();
    }

    int rules(boolean front) {
        return (front ? prefixes : suffixes).size();
    }

    /** All that was ever printed, what is lost too. */
    String output() {
        return output.toString();
    }

    void wipe() {
        output.setLength(0);
    }

    int run(String text) {
        if (text.isEmpty()) {
            return 0;
        }
        String[] lines = (text.endsWith("\n") ? text.substring(0, text.length() - 1) : text).split("\n", -1);
        for (String line : lines) {
            if (!line.replace(" ", "").isEmpty()) {
                output.append(answer(line)).append('\n');
            }
        }
        return lines.length;
    }

    private String answer(String line) {
        List<String> pieces = new ArrayList<>();
        List<Integer> places = new ArrayList<>();
        for (int i = 0; i < line.length(); i++) {
            if (line.charAt(i) != ' ' && (i == 0 || line.charAt(i - 1) == ' ')) {
                int end = line.indexOf(' ', i);
                pieces.add(line.substring(i, end < 0 ? line.length() : end));
                places.add(i + 1);
            }
        }
        places.add(line.length() + 1);
        try {
            return answer(pieces, places);
        } catch (Fault fault) {
            return "? " + fault.place;
        }
    }

    private static void want(List<String> pieces, List<Integer> places, String... kinds) throws Fault {
        for (int i = 0; i < kinds.length; i++) {
            if (i + 1 >= pieces.size() || !pieces.get(i + 1).matches("(?s)" + kinds[i])) {
                throw new Fault(places.get(Math.min(i + 1, pieces.size())));
            }
        }
        if (pieces.size() > kinds.length + 1) {
            throw new Fault(places.get(kinds.length + 1));
        }
    }

    private String answer(List<String> pieces, List<Integer> places) throws Fault {
        String entry = "[a-z]{1,16}";
        String form = "[a-z]{1,28}";
        switch (pieces.get(0)) {
            case "add":
                want(pieces, places, entry + "(/(?:([A-Z])(?!.*\\2))+)?");
                return add(pieces.get(1).split("/"));
            case "drop":
                want(pieces, places, entry);
                return flagsOf.remove(pieces.get(1)) == null ? "none" : "ok";
            case "prefix":
            case "suffix":
                want(pieces, places, "[A-Z]", "0|[a-z]{1,6}", "0|[a-z]{1,6}", "0|[a-z.]{1,6}");
                return rule(pieces);
            case "check":
                String[] kinds = new String[Math.max(1, pieces.size() - 1)];
                java.util.Arrays.fill(kinds, form);
                want(pieces, places, kinds);
                TreeSet<String> words = new TreeSet<>(pieces.subList(1, pieces.size()));
                words.removeIf(word -> !why(word).isEmpty());
                return list(words);
            case "look":
                want(pieces, places, entry);
                TreeSet<String> found = new TreeSet<>(flagsOf.keySet());
                found.removeIf(word -> !word.startsWith(pieces.get(1)));
                return list(found);
            case "why":
                want(pieces, places, form);
                return list(why(pieces.get(1)));
            case "forms":
                want(pieces, places, entry);
                TreeSet<String> forms = new TreeSet<>();
                if (flagsOf.containsKey(pieces.get(1))) {
                    waysOf(pieces.get(1)).forEach(way -> forms.add(way.form()));
                }
                return list(forms);
            case "count":
                want(pieces, places);
                return flagsOf.size() + " " + prefixes.size() + " " + suffixes.size();
            case "clear":
                want(pieces, places);
                flagsOf.clear();
                prefixes.clear();
                suffixes.clear();
                return "ok";
            default:
                throw new Fault(places.get(0));
        }
    }

    private static String list(Iterable<String> words) {
        String all = String.join(" ", words);
        return all.isEmpty() ? "-" : all;
    }

    private String add(String[] parts) {
        String flags = parts.length > 1 ? parts[1] : "";
        if (flagsOf.containsKey(parts[0])) {
            flagsOf.put(parts[0], flags);
            return "again";
        }
        if (flagsOf.size() == 300) {
            return "full";
        }
        flagsOf.put(parts[0], flags);
        return "ok";
    }

    private String rule(List<String> pieces) {
        boolean front = pieces.get(0).equals("prefix");
        List<Rule> rules = front ? prefixes : suffixes;
        if (rules.size() == 8) {
            return "full";
        }
        rules.add(new Rule(front, pieces.get(1), letters(pieces.get(2)), letters(pieces.get(3)),
            letters(pieces.get(4))));
        return "ok";
    }

    private static String letters(String piece) {
        return piece.equals("0") ? "" : piece;
    }

    private List<String> why(String word) {
        List<String> all = new ArrayList<>();
        for (String entry : flagsOf.keySet()) {
            for (Way way : waysOf(entry)) {
                if (way.form().equals(word)) {
                    all.add(way.told());
                }
            }
        }
        return all;
    }

    private List<Way> waysOf(String entry) {
        List<Way> ways = new ArrayList<>();
        String flags = flagsOf.get(entry);
        for (int p = 0; p <= prefixes.size(); p++) {
            Rule prefix = p == 0 ? null : prefixes.get(p - 1);
            if (prefix != null && !prefix.goesWith(entry, flags)) {
                continue;
            }
            for (int s = 0; s <= suffixes.size(); s++) {
                Rule suffix = s == 0 ? null : suffixes.get(s - 1);
                if (suffix != null && !suffix.goesWith(entry, flags)) {
                    continue;
                }
                int front = prefix == null ? 0 : prefix.strip().length();
                int behind = suffix == null ? 0 : suffix.strip().length();
                if (entry.length() > front + behind) {
                    String left = entry.substring(front, entry.length() - behind);
                    ways.add(new Way((prefix == null ? "" : prefix.add()) + left + (suffix == null ? "" : suffix.add()),
                        (p == 0 ? "" : "p" + p + "+") + entry + (s == 0 ? "" : "+s" + s)));
                }
            }
        }
        return ways;
    }
}
