import java.util.ArrayList;

/**
 * A desk for spelling: a dictionary of words with flags, rules of what may stand before and behind a word, and lines of
 * a small language that fill it, check words, look words up, and tell why a word is one.
 */
public final class SpellDesk {
    private static final int TEXT_LIMIT = 2048;
    private static final int OUTPUT_LIMIT = 6000;
    private static final int ENTRY_LIMIT = 300;
    private static final int RULE_LIMIT = 8;
    private static final int ENTRY_LETTERS = 16;
    private static final int PART_LETTERS = 6;
    private static final int FORM_LETTERS = ENTRY_LETTERS + 2 * PART_LETTERS;

    /** The rules of one kind, and no rule, which is number 0. */
    private static final int CHOICES = RULE_LIMIT + 1;
    private static final int WAY_LIMIT = CHOICES * CHOICES;

    /** Above the pieces that a text can have, as each takes a character and a space. */
    private static final int PIECE_LIMIT = TEXT_LIMIT / 2;

    /** Halving more often than this leaves nothing of any int. */
    private static final int HALVINGS = 32;

    private static final char LINE_END = 10;
    private static final char SPACE = 32;
    private static final char ANY_LETTER = '.';

    private final Letters text;
    private final Line line;
    private final Printer printer;
    private final Dictionary dictionary;
    private final RuleList prefixes;
    private final RuleList suffixes;
    private final Speller speller;
    private final WordList asked;

    public SpellDesk() {
        text = new Letters(TEXT_LIMIT);
        line = new Line(text);
        printer = new Printer();
        dictionary = new Dictionary();
        prefixes = new RuleList(true);
        suffixes = new RuleList(false);
        speller = new Speller(dictionary, prefixes, suffixes);
        asked = new WordList(text, PIECE_LIMIT);
    }

    public void type(int a, int b, int c, int d) throws IllegalStateException {
        int more = countCharacters(a) + countCharacters(b) + countCharacters(c) + countCharacters(d);
        if (text.count() + more > TEXT_LIMIT) {
            throw new IllegalStateException("the text would have more than 2048 characters");
        }
        appendCharacters(a);
        appendCharacters(b);
        appendCharacters(c);
        appendCharacters(d);
    }

    public int typed() {
        return text.count();
    }

    public int run() {
        int lines = 0;
        int start = 0;
        int end = text.count();
        for (int i = 0; i < end; i++) {
            if (text.at(i) == LINE_END) {
                doLine(start, i);
                lines++;
                start = i + 1;
            }
        }
        if (start < end) {
            doLine(start, end);
            lines++;
        }
        text.clear();
        return lines;
    }

    public int size() {
        return printer.count();
    }

    public int output(int i) throws IndexOutOfBoundsException {
        if (i < 0 || i >= printer.count()) {
            throw new IndexOutOfBoundsException("the output has no such character");
        }
        return printer.at(i);
    }

    public int lost() {
        return printer.lostCount();
    }

    public void wipe() {
        printer.clear();
    }

    public int entries() {
        return dictionary.count();
    }

    public int rules(boolean prefixes) {
        return prefixes ? this.prefixes.count() : suffixes.count();
    }

    private static int countCharacters(int four) {
        int count = 0;
        for (int shift = 24; shift >= 0; shift -= 8) {
            if ((four >>> shift & 255) != 0) {
                count++;
            }
        }
        return count;
    }

    private void appendCharacters(int four) {
        for (int shift = 24; shift >= 0; shift -= 8) {
            int character = four >>> shift & 255;
            if (character != 0) {
                text.append((char) character);
            }
        }
    }

    private void doLine(int from, int to) {
        line.open(from, to);
        if (!line.next()) {
            return;
        }
        // A command that answers false has done and printed nothing, and leaves the line at the piece at fault.
        boolean understood = false;
        if (line.is("add")) {
            understood = doAdd();
        } else if (line.is("drop")) {
            understood = doDrop();
        } else if (line.is("prefix")) {
            understood = doRule(prefixes);
        } else if (line.is("suffix")) {
            understood = doRule(suffixes);
        } else if (line.is("check")) {
            understood = doCheck();
        } else if (line.is("look")) {
            understood = doLook();
        } else if (line.is("why")) {
            understood = doWhy();
        } else if (line.is("forms")) {
            understood = doForms();
        } else if (line.is("count")) {
            understood = doCount();
        } else if (line.is("clear")) {
            understood = doClear();
        }
        if (!understood) {
            printer.printText("? ");
            printer.printNumber(line.place());
        }
        printer.endLine();
    }

    private boolean doAdd() {
        if (!line.next()) {
            return false;
        }
        int from = line.start();
        int length = line.leadingLetters();
        int flags = line.flagsBehind(length);
        if (length < 1 || length > ENTRY_LETTERS || flags < 0 || !line.ends()) {
            return false;
        }
        int rank = dictionary.rankOf(text, from, length);
        Entry entry = dictionary.at(rank, text, from, length);
        if (entry != null) {
            entry.flags = flags;
            printer.printText("again");
        } else if (dictionary.count() >= ENTRY_LIMIT) {
            printer.printText("full");
        } else {
            dictionary.insert(rank, new Entry(text.copy(from, length), flags));
            printer.printText("ok");
        }
        return true;
    }

    private boolean doDrop() {
        if (!line.nextIsOnlyWord(ENTRY_LETTERS)) {
            return false;
        }
        int rank = dictionary.rankOf(text, line.wordFrom(), line.wordLength());
        if (dictionary.at(rank, text, line.wordFrom(), line.wordLength()) == null) {
            printer.printText("none");
        } else {
            dictionary.remove(rank);
            printer.printText("ok");
        }
        return true;
    }

    private boolean doRule(RuleList list) {
        Rule rule = readRule(list.atFront());
        if (rule == null) {
            return false;
        }
        if (list.count() >= RULE_LIMIT) {
            printer.printText("full");
        } else {
            list.append(rule);
            printer.printText("ok");
        }
        return true;
    }

    private Rule readRule(boolean atFront) {
        if (!line.next() || line.flag() == 0) {
            return null;
        }
        int flag = line.flag();
        if (!line.nextIsPart(false)) {
            return null;
        }
        Letters strip = line.part();
        if (!line.nextIsPart(false)) {
            return null;
        }
        Letters add = line.part();
        if (!line.nextIsPart(true)) {
            return null;
        }
        Letters condition = line.part();
        if (!line.ends()) {
            return null;
        }
        return new Rule(atFront, flag, strip, add, condition);
    }

    private boolean doCheck() {
        asked.clear();
        if (!line.nextIsWord(FORM_LETTERS)) {
            return false;
        }
        asked.put(line.wordFrom(), line.wordLength());
        for (int i = 0; i < PIECE_LIMIT && !line.ends(); i++) {
            if (!line.isWord(FORM_LETTERS)) {
                return false;
            }
            asked.put(line.wordFrom(), line.wordLength());
        }
        for (int i = 0; i < asked.count(); i++) {
            if (speller.findWays(text, asked.from(i), asked.length(i), 1) == 0) {
                printer.printItem(text, asked.from(i), asked.length(i));
            }
        }
        printer.endItems();
        return true;
    }

    private boolean doLook() {
        if (!line.nextIsOnlyWord(ENTRY_LETTERS)) {
            return false;
        }
        // In order, the entries that begin with a word stand together, from the word's own place on.
        int rank = dictionary.rankOf(text, line.wordFrom(), line.wordLength());
        for (int i = rank; i < dictionary.count(); i++) {
            Entry entry = dictionary.at(i);
            if (entry == null || !entry.beginsWith(text, line.wordFrom(), line.wordLength())) {
                break;
            }
            printer.printItem(entry.word, 0, entry.word.count());
        }
        printer.endItems();
        return true;
    }

    private boolean doWhy() {
        if (!line.nextIsOnlyWord(FORM_LETTERS)) {
            return false;
        }
        int ways = speller.findWays(text, line.wordFrom(), line.wordLength(), WAY_LIMIT);
        for (int i = 0; i < ways; i++) {
            printWay(speller.entryOfWay(i), speller.prefixOfWay(i), speller.suffixOfWay(i));
        }
        printer.endItems();
        return true;
    }

    private void printWay(Entry entry, int prefix, int suffix) {
        if (entry == null) {
            return;
        }
        printer.startItem();
        if (prefix > 0) {
            printer.printText("p");
            printer.printNumber(prefix);
            printer.printText("+");
        }
        printer.printLetters(entry.word, 0, entry.word.count());
        if (suffix > 0) {
            printer.printText("+s");
            printer.printNumber(suffix);
        }
    }

    private boolean doForms() {
        if (!line.nextIsOnlyWord(ENTRY_LETTERS)) {
            return false;
        }
        int rank = dictionary.rankOf(text, line.wordFrom(), line.wordLength());
        Entry entry = dictionary.at(rank, text, line.wordFrom(), line.wordLength());
        if (entry != null) {
            WordList forms = speller.formsOf(entry);
            for (int i = 0; i < forms.count(); i++) {
                printer.printItem(forms.row(), forms.from(i), forms.length(i));
            }
        }
        printer.endItems();
        return true;
    }

    private boolean doCount() {
        if (!line.ends()) {
            return false;
        }
        printer.startItem();
        printer.printNumber(dictionary.count());
        printer.startItem();
        printer.printNumber(prefixes.count());
        printer.startItem();
        printer.printNumber(suffixes.count());
        return true;
    }

    private boolean doClear() {
        if (!line.ends()) {
            return false;
        }
        dictionary.clear();
        prefixes.clear();
        suffixes.clear();
        printer.printText("ok");
        return true;
    }

    /** A row of characters that grows up to its capacity; its reads and writes are safe for every index. */
    private static final class Letters {
        private final char[] row;
        private int count;

        Letters(int capacity) {
            row = new char[Math.max(capacity, 0)];
            count = 0;
        }

        int count() {
            return count;
        }

        char at(int i) {
            return i >= 0 && i < count ? row[i] : 0;
        }

        boolean append(char character) {
            if (count >= row.length) {
                return false;
            }
            row[count] = character;
            count++;
            return true;
        }

        void appendAll(Letters source, int from, int length) {
            for (int i = 0; i < length; i++) {
                append(source.at(from + i));
            }
        }

        void clear() {
            count = 0;
        }

        Letters copy(int from, int length) {
            Letters copy = new Letters(length);
            for (int i = 0; i < length; i++) {
                copy.append(at(from + i));
            }
            return copy;
        }

        /** Below 0, 0 or above 0, as this row's word stands before the other row's, is it, or stands behind it. */
        int compare(int from, int length, Letters other, int otherFrom, int otherLength) {
            for (int i = 0; i < length && i < otherLength; i++) {
                int here = from + i;
                int there = otherFrom + i;
                if (here < 0 || here >= count || there < 0 || there >= other.count) {
                    break;
                }
                if (row[here] != other.row[there]) {
                    return row[here] - other.row[there];
                }
            }
            return length - otherLength;
        }
    }

    /** Goes over the pieces of one line of the text. */
    private static final class Line {
        private static final int NOT_FLAGS = -1;

        private final Letters text;
        private int lineStart;
        private int lineEnd;
        private int start;
        private int end;
        private int wordFrom;
        private int wordLength;

        Line(Letters text) {
            this.text = text;
        }

        void open(int from, int to) {
            lineStart = from;
            lineEnd = to;
            start = from;
            end = from;
        }

        /** Goes on to the next piece; when there is none, the line stands behind its last character. */
        boolean next() {
            start = end;
            while (start < lineEnd && text.at(start) == SPACE) {
                start++;
            }
            end = start;
            while (end < lineEnd && text.at(end) != SPACE) {
                end++;
            }
            return start < end;
        }

        boolean ends() {
            return !next();
        }

        int start() {
            return start;
        }

        int place() {
            return start - lineStart + 1;
        }

        int wordFrom() {
            return wordFrom;
        }

        int wordLength() {
            return wordLength;
        }

        boolean is(String name) {
            if (end - start != name.length()) {
                return false;
            }
            for (int i = 0; i < name.length(); i++) {
                if (text.at(start + i) != name.charAt(i)) {
                    return false;
                }
            }
            return true;
        }

        int leadingLetters() {
            int at = start;
            while (at < end && isLetter(text.at(at))) {
                at++;
            }
            return at - start;
        }

        /** Keeps the piece as the word, which stays when the line goes on. */
        boolean isWord(int mostLetters) {
            wordFrom = start;
            wordLength = leadingLetters();
            return wordLength >= 1 && wordLength <= mostLetters && wordLength == end - start;
        }

        boolean nextIsWord(int mostLetters) {
            return next() && isWord(mostLetters);
        }

        boolean nextIsOnlyWord(int mostLetters) {
            return next() && isWord(mostLetters) && ends();
        }

        /** The flags behind the piece's letters, a bit for each; below 0 if they are not as told. */
        int flagsBehind(int letters) {
            int slash = start + letters;
            if (slash == end) {
                return 0;
            }
            if (text.at(slash) != '/' || slash + 1 == end) {
                return NOT_FLAGS;
            }
            int flags = 0;
            for (int i = slash + 1; i < end; i++) {
                int flag = flagBit(text.at(i));
                if (flag == 0 || (flags & flag) != 0) {
                    return NOT_FLAGS;
                }
                flags |= flag;
            }
            return flags;
        }

        /** The bit of the flag that the piece is, or 0 if it is none. */
        int flag() {
            return end - start == 1 ? flagBit(text.at(start)) : 0;
        }

        boolean nextIsPart(boolean pointsToo) {
            if (!next()) {
                return false;
            }
            if (is("0")) {
                return true;
            }
            for (int i = start; i < end; i++) {
                if (!isLetter(text.at(i)) && !(pointsToo && text.at(i) == ANY_LETTER)) {
                    return false;
                }
            }
            return end - start <= PART_LETTERS;
        }

        Letters part() {
            return text.copy(start, is("0") ? 0 : end - start);
        }

        private static boolean isLetter(char character) {
            return character >= 'a' && character <= 'z';
        }

        private static int flagBit(char character) {
            return character >= 'A' && character <= 'Z' ? 1 << (character - 'A') : 0;
        }
    }

    /** The output, and what of it was lost. */
    private static final class Printer {
        private final Letters printed;
        private int lostCount;
        private int items;

        Printer() {
            printed = new Letters(OUTPUT_LIMIT);
        }

        int count() {
            return printed.count();
        }

        char at(int i) {
            return printed.at(i);
        }

        int lostCount() {
            return lostCount;
        }

        void clear() {
            printed.clear();
            lostCount = 0;
        }

        void printText(String written) {
            for (int i = 0; i < written.length(); i++) {
                print(written.charAt(i));
            }
        }

        void printLetters(Letters row, int from, int length) {
            for (int i = 0; i < length; i++) {
                print(row.at(from + i));
            }
        }

        void printNumber(int number) {
            int unit = 1;
            for (int left = number / 10; left > 0; left /= 10) {
                unit *= 10;
            }
            for (int rest = unit; rest > 0; rest /= 10) {
                print((char) ('0' + number / rest % 10));
            }
        }

        void startItem() {
            if (items > 0) {
                print(SPACE);
            }
            items++;
        }

        void printItem(Letters row, int from, int length) {
            startItem();
            printLetters(row, from, length);
        }

        void endItems() {
            if (items == 0) {
                print('-');
            }
        }

        void endLine() {
            print(LINE_END);
            items = 0;
        }

        private void print(char character) {
            if (!printed.append(character)) {
                lostCount++;
            }
        }
    }

    /** A word of the dictionary. */
    private static final class Entry {
        final Letters word;
        int flags;

        Entry(Letters word, int flags) {
            this.word = word;
            this.flags = flags;
        }

        boolean beginsWith(Letters row, int from, int length) {
            return length <= word.count() && word.compare(0, length, row, from, length) == 0;
        }
    }

    /** The entries in order, so that a word is found by halving; a word's rank is how many entries stand before it. */
    private static final class Dictionary {
        private final ArrayList<Entry> list;

        Dictionary() {
            list = new ArrayList<>();
        }

        int count() {
            return list.size();
        }

        void clear() {
            list.clear();
        }

        Entry at(int rank) {
            return rank >= 0 && rank < list.size() ? list.get(rank) : null;
        }

        /** The entry of that rank if it is this very word, or else null. */
        Entry at(int rank, Letters row, int from, int length) {
            Entry entry = at(rank);
            if (entry == null || entry.word.compare(0, entry.word.count(), row, from, length) != 0) {
                return null;
            }
            return entry;
        }

        int rankOf(Letters row, int from, int length) {
            int low = 0;
            int high = list.size();
            for (int i = 0; i < HALVINGS && low < high; i++) {
                int middle = (low + high) / 2;
                Letters word = list.get(middle).word;
                if (word.compare(0, word.count(), row, from, length) < 0) {
                    low = middle + 1;
                } else {
                    high = middle;
                }
            }
            return low;
        }

        void insert(int rank, Entry entry) {
            if (rank >= 0 && rank <= list.size()) {
                list.add(rank, entry);
            }
        }

        void remove(int rank) {
            if (rank >= 0 && rank < list.size()) {
                list.remove(rank);
            }
        }
    }

    /** A prefix or a suffix. */
    private static final class Rule {
        final boolean atFront;
        final int flag;
        final Letters strip;
        final Letters add;
        final Letters condition;

        Rule(boolean atFront, int flag, Letters strip, Letters add, Letters condition) {
            this.atFront = atFront;
            this.flag = flag;
            this.strip = strip;
            this.add = add;
            this.condition = condition;
        }

        boolean goesWith(Entry entry) {
            int length = entry.word.count();
            return (entry.flags & flag) == flag
                && stands(strip, entry.word, 0, length)
                && stands(condition, entry.word, 0, length);
        }

        boolean addStands(Letters row, int from, int length) {
            return stands(add, row, from, length);
        }

        private boolean stands(Letters pattern, Letters row, int from, int length) {
            int wanted = pattern.count();
            if (wanted > length) {
                return false;
            }
            int start = atFront ? from : from + length - wanted;
            for (int i = 0; i < wanted; i++) {
                char letter = pattern.at(i);
                if (letter != ANY_LETTER && letter != row.at(start + i)) {
                    return false;
                }
            }
            return true;
        }
    }

    /** The rules of one kind, by their numbers. */
    private static final class RuleList {
        private final boolean atFront;
        private final ArrayList<Rule> list;

        /** It asks for no flag and changes nothing: with it as number 0, "no rule" needs no case of its own. */
        private final Rule none;

        RuleList(boolean atFront) {
            this.atFront = atFront;
            list = new ArrayList<>();
            Letters nothing = new Letters(0);
            none = new Rule(atFront, 0, nothing, nothing, nothing);
        }

        boolean atFront() {
            return atFront;
        }

        int count() {
            return list.size();
        }

        void clear() {
            list.clear();
        }

        void append(Rule rule) {
            list.add(rule);
        }

        Rule at(int number) {
            return number >= 1 && number <= list.size() ? list.get(number - 1) : none;
        }
    }

    /** Words in order, each once; a word is a stretch of the one row that holds them all. */
    private static final class WordList {
        private final Letters row;
        private final int[] starts;
        private final int[] lengths;
        private int count;

        WordList(Letters row, int capacity) {
            this.row = row;
            starts = new int[Math.max(capacity, 0)];
            lengths = new int[Math.max(capacity, 0)];
        }

        Letters row() {
            return row;
        }

        int count() {
            return count;
        }

        int from(int i) {
            return i >= 0 && i < count ? starts[i] : 0;
        }

        int length(int i) {
            return i >= 0 && i < count ? lengths[i] : 0;
        }

        void clear() {
            count = 0;
        }

        void put(int from, int length) {
            int place = 0;
            int high = count;
            for (int i = 0; i < HALVINGS && place < high; i++) {
                int middle = (place + high) / 2;
                int order = row.compare(starts[middle], lengths[middle], row, from, length);
                if (order == 0) {
                    return;
                }
                if (order < 0) {
                    place = middle + 1;
                } else {
                    high = middle;
                }
            }
            if (count >= starts.length) {
                return;
            }
            System.arraycopy(starts, place, starts, place + 1, count - place);
            System.arraycopy(lengths, place, lengths, place + 1, count - place);
            starts[place] = from;
            lengths[place] = length;
            count++;
        }
    }

    /** What the dictionary and the rules make of a word. */
    private static final class Speller {
        private final Dictionary dictionary;
        private final RuleList prefixes;
        private final RuleList suffixes;
        private final Letters base;
        private final int[] ways;
        private final Letters formLetters;
        private final WordList forms;
        private int wayCount;

        Speller(Dictionary dictionary, RuleList prefixes, RuleList suffixes) {
            this.dictionary = dictionary;
            this.prefixes = prefixes;
            this.suffixes = suffixes;
            base = new Letters(ENTRY_LETTERS);
            ways = new int[WAY_LIMIT];
            formLetters = new Letters(WAY_LIMIT * FORM_LETTERS);
            forms = new WordList(formLetters, WAY_LIMIT);
        }

        /**
         * Finds the ways in which the word is a form of an entry, in order, but no more than the limit, and answers how
         * many. A prefix and a suffix, undone, leave one word that may be an entry: asking for it spares going over all
         * entries.
         */
        int findWays(Letters row, int from, int length, int limit) {
            wayCount = 0;
            for (int p = 0; p <= prefixes.count() && wayCount < limit; p++) {
                Rule prefix = prefixes.at(p);
                if (!prefix.addStands(row, from, length)) {
                    continue;
                }
                for (int s = 0; s <= suffixes.count() && wayCount < limit; s++) {
                    Rule suffix = suffixes.at(s);
                    if (!suffix.addStands(row, from, length) || !undo(prefix, suffix, row, from, length)) {
                        continue;
                    }
                    int rank = dictionary.rankOf(base, 0, base.count());
                    Entry entry = dictionary.at(rank, base, 0, base.count());
                    if (entry != null && prefix.goesWith(entry) && suffix.goesWith(entry)) {
                        putWay((rank * CHOICES + p) * CHOICES + s);
                    }
                }
            }
            return wayCount;
        }

        Entry entryOfWay(int i) {
            return dictionary.at(way(i) / WAY_LIMIT);
        }

        int prefixOfWay(int i) {
            return way(i) / CHOICES % CHOICES;
        }

        int suffixOfWay(int i) {
            return way(i) % CHOICES;
        }

        WordList formsOf(Entry entry) {
            formLetters.clear();
            forms.clear();
            for (int p = 0; p <= prefixes.count(); p++) {
                Rule prefix = prefixes.at(p);
                if (!prefix.goesWith(entry)) {
                    continue;
                }
                for (int s = 0; s <= suffixes.count(); s++) {
                    Rule suffix = suffixes.at(s);
                    if (suffix.goesWith(entry)) {
                        putForm(entry, prefix, suffix);
                    }
                }
            }
            return forms;
        }

        private void putForm(Entry entry, Rule prefix, Rule suffix) {
            int left = entry.word.count() - prefix.strip.count() - suffix.strip.count();
            if (left < 1) {
                return;
            }
            int from = formLetters.count();
            formLetters.appendAll(prefix.add, 0, prefix.add.count());
            formLetters.appendAll(entry.word, prefix.strip.count(), left);
            formLetters.appendAll(suffix.add, 0, suffix.add.count());
            forms.put(from, formLetters.count() - from);
        }

        /** Makes the base of which these rules make the word; false if it can be no entry. */
        private boolean undo(Rule prefix, Rule suffix, Letters row, int from, int length) {
            int left = length - prefix.add.count() - suffix.add.count();
            if (left < 1 || prefix.strip.count() + left + suffix.strip.count() > ENTRY_LETTERS) {
                return false;
            }
            base.clear();
            base.appendAll(prefix.strip, 0, prefix.strip.count());
            base.appendAll(row, from + prefix.add.count(), left);
            base.appendAll(suffix.strip, 0, suffix.strip.count());
            return true;
        }

        /** A way is one number, of rank, prefix and suffix, so that the order of ways is that of numbers. */
        private void putWay(int way) {
            if (wayCount >= ways.length) {
                return;
            }
            int place = wayCount;
            while (place > 0 && ways[place - 1] > way) {
                ways[place] = ways[place - 1];
                place--;
            }
            ways[place] = way;
            wayCount++;
        }

        private int way(int i) {
            return i >= 0 && i < wayCount ? ways[i] : 0;
        }
    }
}
