import java.util.Arrays;

/**
 * A small shell. A text is typed char by char and then run: it is read into a flat code
 * (class Reader), which is worked off step by step (class Machine). Nothing here calls itself:
 * texts nest deeper than calls may stand open, so both keep stacks of their own.
 */
public final class JobshellQuay {
    public static final int NONE = -1;
    public static final int GOING = 0, STOPPED = 1, ENDED = 2;

    private static final int TEXT_MOST = 120;
    private static final int OUTERMOST_MOST = 300;
    private static final int OUTPUT_MOST = 200;
    private static final int LETTERS = 26;
    private static final int TICKS_MOST = 50;
    private static final int KILLED = 137;
    private static final int IS_NOTHING = -2;

    /** An instruction of the code: its kind in the low bits, its argument above them. */
    private static final int OP_BITS = 6, OP_MASK = 63;

    private static final int OP_NOTHING = 0, OP_JUMP = 1, OP_JUMP_IF_NOT = 2, OP_JUMP_IF = 3,
            OP_ZERO = 4, OP_WHILE = 5, OP_TEST = 6, OP_AGAIN = 7, OP_PAREN = 8,
            OP_PIPE_FIRST = 9, OP_PIPE_MIDDLE = 10, OP_PIPE_LAST = 11, OP_JOB = 12, OP_DEFINE = 13;
    private static final int OP_SIMPLE = 16, OP_WORD = 17, OP_OUT = 18, OP_BEHIND = 19, OP_IN = 20,
            OP_ASSIGN = 21, OP_PERFORM = 22;
    private static final int OP_CHAR = 32, OP_QUOTED = 33, OP_MARK = 34, OP_NAME = 35,
            OP_PARAMETER = 36, OP_COUNT = 37, OP_STATUS = 38, OP_LENGTH = 39, OP_NEXT = 40,
            OP_WORD_END = 41;
    /** Behind these stands the place where they end, or of choices where the second one is. */
    private static final int OP_OR = 48, OP_AND = 49, OP_SUM = 50, OP_COMMAND = 51, OP_CHOICES = 52;

    /** Marks beside a char of an expanded word. A MARK item is no char: a quote stood there. */
    private static final int CHAR_MASK = 255, QUOTED = 256, MARK = 512;

    private final Row text;
    private final Reader reader;
    private final Machine machine;
    private final Rewriter rewriter;

    public JobshellQuay() {
        text = new Row(TEXT_MOST);
        reader = new Reader();
        machine = new Machine();
        rewriter = new Rewriter(machine.shell, machine.files);
    }

    // ---- the text

    public int type(char c) throws IllegalArgumentException, IllegalStateException {
        if (!startsWord(c) && SIGNS.indexOf(c) < 0) {
            throw new IllegalArgumentException("no such char can be typed");
        }
        if (text.length >= TEXT_MOST) {
            throw new IllegalStateException("the text is full");
        }
        text.add(c);
        return text.length;
    }

    public int clear() {
        int had = text.length;
        text.empty();
        return had;
    }

    public int fault() {
        reader.read(text, false);
        return reader.fault;
    }

    public int run() throws IllegalStateException {
        reader.read(text, false);
        if (reader.fault != NONE) {
            throw new IllegalStateException("the text is no list");
        }
        text.empty();
        int[] code = reader.copyOfCode();
        machine.go(code, code.length);
        return machine.shell.status;
    }

    // ---- jobs

    public int pass(int ticks) throws IllegalArgumentException {
        if (ticks < 1 || ticks > TICKS_MOST) {
            throw new IllegalArgumentException("ticks are 1 to 50");
        }
        int lines = 0;
        for (int tick = 0; tick < ticks; tick++) {
            lines += machine.jobs.tick(machine.output);
        }
        return lines;
    }

    public int turn(int job) throws IndexOutOfBoundsException, IllegalStateException {
        Jobs jobs = machine.jobs;
        if (!jobs.has(job)) {
            throw new IndexOutOfBoundsException("no such job");
        }
        if (jobs.states[job] == ENDED) {
            throw new IllegalStateException("the job is ended");
        }
        int was = jobs.states[job];
        jobs.states[job] = was == GOING ? STOPPED : GOING;
        return was;
    }

    public int front(int job) throws IndexOutOfBoundsException, IllegalStateException {
        Jobs jobs = machine.jobs;
        if (!jobs.has(job)) {
            throw new IndexOutOfBoundsException("no such job");
        }
        if (jobs.states[job] == ENDED) {
            throw new IllegalStateException("the job is ended");
        }
        jobs.giveAll(job, machine.output);
        jobs.states[job] = ENDED;
        machine.shell.status = jobs.statuses[job];
        return jobs.statuses[job];
    }

    public int kill(int job) throws IndexOutOfBoundsException, IllegalStateException {
        Jobs jobs = machine.jobs;
        if (!jobs.has(job)) {
            throw new IndexOutOfBoundsException("no such job");
        }
        if (jobs.states[job] == ENDED) {
            throw new IllegalStateException("the job is ended");
        }
        int left = jobs.linesLeft(job);
        jobs.drop(job);
        jobs.states[job] = ENDED;
        jobs.statuses[job] = KILLED;
        return left;
    }

    // ---- questions

    public int status() {
        return machine.shell.status;
    }

    public int size() {
        return machine.output.length;
    }

    public char charAt(int place) throws IndexOutOfBoundsException {
        Row output = machine.output;
        if (place < 0 || place >= output.length || place >= output.chars.length) {
            throw new IndexOutOfBoundsException("no such place");
        }
        return output.chars[place];
    }

    public int flush() {
        int had = machine.output.length;
        machine.output.empty();
        return had;
    }

    public int value(int name, int place) throws IndexOutOfBoundsException {
        if (name < 0 || name >= LETTERS || place < 0) {
            throw new IndexOutOfBoundsException("no such name or place");
        }
        Names names = machine.shell.names;
        return names.isNothing(name) ? IS_NOTHING : names.at(name, place);
    }

    public int files() {
        return machine.files.count;
    }

    public int file(int file, int place, boolean isName) throws IndexOutOfBoundsException {
        Files files = machine.files;
        if (file < 0 || file >= files.count || place < 0) {
            throw new IndexOutOfBoundsException("no such file or place");
        }
        Row asked = isName ? files.names[file] : files.texts[file];
        return asked.at(place);
    }

    public int jobs() {
        return machine.jobs.count;
    }

    public int job(int job, int what) throws IndexOutOfBoundsException, IllegalArgumentException {
        Jobs jobs = machine.jobs;
        if (!jobs.has(job)) {
            throw new IndexOutOfBoundsException("no such job");
        }
        if (what < 0 || what > 2) {
            throw new IllegalArgumentException("what is 0 to 2");
        }
        if (what == 0) {
            return jobs.states[job];
        }
        return what == 1 ? jobs.statuses[job] : jobs.linesLeft(job);
    }

    public int fields() {
        reader.read(text, true);
        if (reader.fault != NONE) {
            return NONE;
        }
        machine.go(reader.code, reader.used);
        return machine.shell.command.args.count;
    }

    public int fieldAt(int field, int place) throws IndexOutOfBoundsException {
        if (field < 0 || place < 0) {
            throw new IndexOutOfBoundsException("no such field or place");
        }
        reader.read(text, true);
        if (reader.fault != NONE) {
            return NONE;
        }
        machine.go(reader.code, reader.used);
        return machine.shell.command.args.at(field, place);
    }

    public int fieldAnew(int field, int place) throws IndexOutOfBoundsException {
        if (field < 0 || place < 0) {
            throw new IndexOutOfBoundsException("no such field or place");
        }
        reader.read(text, true);
        if (reader.fault != NONE) {
            return NONE;
        }
        rewriter.rewrite(text);
        return rewriter.fields.at(field, place);
    }

    // ---- chars

    /** The chars that stand for themselves in a word. */
    private static final String PLAIN = "abcdefghijklmnopqrstuvwxyz0123456789=*?+-,#:";
    /** The chars other than these with which a word without choices can begin. */
    private static final String QUOTING = "$'\"\\";
    /** The chars other than all these that can be typed. */
    private static final String SIGNS = " ;&|(){}><";

    private static boolean isLetter(int c) {
        return c >= 'a' && c <= 'z';
    }

    private static boolean isDigit(int c) {
        return c >= '0' && c <= '9';
    }

    private static boolean isPlain(int c) {
        return c >= 0 && PLAIN.indexOf((char) c) >= 0;
    }

    private static boolean startsWord(int c) {
        return c >= 0 && (PLAIN.indexOf((char) c) >= 0 || QUOTING.indexOf((char) c) >= 0);
    }

    /** Chars in a row, up to a bound; what comes beyond the bound is gone. */
    private static final class Row {
        final char[] chars;
        int length;
        /** How many chars from the first have been taken, where the row is an input. */
        int taken;

        Row(int most) {
            chars = new char[most];
        }

        void empty() {
            length = 0;
            taken = 0;
        }

        void add(int c) {
            if (length < chars.length) {
                chars[length] = (char) c;
                length++;
            }
        }

        /** Adds what is left of another row, which is taken by that. */
        void take(Row other) {
            for (int i = other.taken; i < other.length; i++) {
                add(other.chars[i]);
            }
            other.taken = other.length;
        }

        /** Becomes what the other row has, as much of it as there is room for. */
        void copyFrom(Row other) {
            empty();
            for (int i = 0; i < other.length && length < chars.length; i++) {
                chars[length] = other.chars[i];
                length++;
            }
        }

        void addNumber(int number) {
            long rest = number;
            if (rest < 0) {
                add('-');
                rest = -rest;
            }
            long unit = 1;
            for (int digits = 1; digits < 10 && rest >= unit * 10; digits++) {
                unit *= 10;
            }
            for (; unit > 0; unit /= 10) {
                add((int) ('0' + rest / unit % 10));
            }
        }

        int at(int place) {
            return place >= 0 && place < length && place < chars.length ? chars[place] : NONE;
        }

        /** Below 0, 0 or above 0, as this row comes ahead of, is, or comes behind the other. */
        int compare(Row other) {
            for (int i = 0; i < length && i < other.length; i++) {
                if (chars[i] != other.chars[i]) {
                    return chars[i] - other.chars[i];
                }
            }
            return length - other.length;
        }
    }

    /** What the names a to z are, or what those that are local were ahead of that. */
    private static final class Names {
        static final int NOTHING = -1, UNKEPT = -2;
        static final int DIGITS_MOST = 9;
        final char[] chars;
        final int[] lengths;

        Names() {
            chars = new char[LETTERS * TEXT_MOST];
            lengths = new int[LETTERS];
            Arrays.fill(lengths, NOTHING);
        }

        boolean isNothing(int name) {
            return name < 0 || name >= LETTERS || lengths[name] < 0;
        }

        boolean isKept(int name) {
            return name >= 0 && name < LETTERS && lengths[name] != UNKEPT;
        }

        int lengthOf(int name) {
            return name < 0 || name >= LETTERS || lengths[name] < 0 ? 0 : lengths[name];
        }

        int at(int name, int place) {
            if (name < 0 || name >= LETTERS || place < 0 || place >= lengths[name]) {
                return NONE;
            }
            return chars[name * TEXT_MOST + place];
        }

        void begin(int name) {
            if (name >= 0 && name < LETTERS) {
                lengths[name] = 0;
            }
        }

        void add(int name, int c) {
            if (name >= 0 && name < LETTERS && lengths[name] >= 0 && lengths[name] < TEXT_MOST) {
                chars[name * TEXT_MOST + lengths[name]] = (char) c;
                lengths[name]++;
            }
        }

        void forget(int name) {
            if (name >= 0 && name < LETTERS) {
                lengths[name] = NOTHING;
            }
        }

        void keepNone() {
            Arrays.fill(lengths, UNKEPT);
        }

        void copyOne(Names other, int name) {
            if (name < 0 || name >= LETTERS) {
                return;
            }
            int from = name * TEXT_MOST;
            lengths[name] = other.lengths[name];
            for (int i = from; i < from + lengths[name]; i++) {
                chars[i] = other.chars[i];
            }
        }

        void copyAll(Names other) {
            for (int name = 0; name < LETTERS; name++) {
                int from = name * TEXT_MOST;
                lengths[name] = other.lengths[name];
                for (int i = from; i < from + lengths[name]; i++) {
                    chars[i] = other.chars[i];
                }
            }
        }

        int numberOf(int name) {
            if (isNothing(name)) {
                return 0;
            }
            int from = name * TEXT_MOST;
            return isNumber(chars, from, from + lengths[name])
                    ? numberIn(chars, from, from + lengths[name]) : 0;
        }

        static boolean isNumber(char[] chars, int from, int to) {
            if (from < 0 || from >= to || to > chars.length) {
                return false;
            }
            int first = chars[from] == '-' ? from + 1 : from;
            if (to - first < 1 || to - first > DIGITS_MOST) {
                return false;
            }
            for (int i = first; i < to; i++) {
                if (chars[i] < '0' || chars[i] > '9') {
                    return false;
                }
            }
            return true;
        }

        /** The number that isNumber has found there. */
        static int numberIn(char[] chars, int from, int to) {
            int number = 0;
            for (int i = from < 0 ? 0 : from; i < to && i < chars.length; i++) {
                if (chars[i] != '-') {
                    number = number * 10 + chars[i] - '0';
                }
            }
            boolean below = from >= 0 && from < to && from < chars.length && chars[from] == '-';
            return below ? -number : number;
        }

        /** The value of a sum that stands in a row of ints, whatever marks they bear. */
        int sum(int[] signs, int from, int to) {
            int total = 0;
            int product = 1;
            boolean minus = false;
            boolean wanted = true;
            int at = from;
            int end = Math.min(to, signs.length);
            for (int step = 0; step < TEXT_MOST && at >= 0 && at < end; step++) {
                int c = signs[at] & CHAR_MASK;
                if (c == ' ') {
                    at++;
                } else if (wanted) {
                    int behind = endOfOne(signs, at, end);
                    if (behind == at) {
                        return 0;
                    }
                    product *= isLetter(c) ? numberOf(c - 'a') : digits(signs, at, behind);
                    wanted = false;
                    at = behind;
                } else if (c == '*') {
                    wanted = true;
                    at++;
                } else if (c == '+' || c == '-') {
                    total += minus ? -product : product;
                    minus = c == '-';
                    product = 1;
                    wanted = true;
                    at++;
                } else {
                    return 0;
                }
            }
            return wanted ? 0 : total + (minus ? -product : product);
        }

        /** Behind the name or number that stands there; the same place if there is none. */
        private static int endOfOne(int[] signs, int at, int to) {
            if (at >= 0 && at < signs.length && isLetter(signs[at] & CHAR_MASK)) {
                return at + 1;
            }
            int end = at;
            while (end >= 0 && end < to && end < signs.length && isDigit(signs[end] & CHAR_MASK)) {
                end++;
            }
            return end - at > DIGITS_MOST ? at : end;
        }

        private static int digits(int[] signs, int from, int to) {
            int number = 0;
            for (int i = from < 0 ? 0 : from; i < to && i < signs.length; i++) {
                number = number * 10 + (signs[i] & CHAR_MASK) - '0';
            }
            return number;
        }
    }

    /** Up to 16 fields, one behind the other in one row of chars. */
    private static final class Fields {
        static final int MOST = 16;
        /** 120 chars of words, and 16 names of files with 8 chars each, and some to spare. */
        static final int CHARS_MOST = 256;
        final char[] chars;
        final int[] starts;
        final int[] ends;
        int count;
        int used;

        Fields() {
            chars = new char[CHARS_MOST];
            starts = new int[MOST];
            ends = new int[MOST];
        }

        void empty() {
            count = 0;
            used = 0;
        }

        /** Begins a field; there is none to be added to if there are too many. */
        boolean begin() {
            if (count >= MOST) {
                return false;
            }
            starts[count] = used;
            ends[count] = used;
            count++;
            return true;
        }

        /** Adds a char to the field that was begun last. */
        void add(int c) {
            if (count > 0 && count <= MOST && used < CHARS_MOST) {
                chars[used] = (char) c;
                used++;
                ends[count - 1] = used;
            }
        }

        /** Adds a field, if it may be. */
        void addRow(Row row) {
            if (count >= MOST) {
                return;
            }
            starts[count] = used;
            for (int i = 0; i < row.length && used < CHARS_MOST; i++) {
                chars[used] = row.chars[i];
                used++;
            }
            ends[count] = used;
            count++;
        }

        int lengthOf(int field) {
            return field >= 0 && field < count ? ends[field] - starts[field] : 0;
        }

        int at(int field, int place) {
            if (field < 0 || field >= count || place < 0 || place >= ends[field] - starts[field]) {
                return NONE;
            }
            return chars[starts[field] + place];
        }

        void copyFrom(Fields other, int first) {
            used = other.used;
            for (int i = 0; i < used; i++) {
                chars[i] = other.chars[i];
            }
            count = 0;
            for (int field = first < 0 ? 0 : first; field < other.count; field++) {
                starts[count] = other.starts[field];
                ends[count] = other.ends[field];
                count++;
            }
        }

        void dropFirst() {
            for (int field = 1; field < count; field++) {
                starts[field - 1] = starts[field];
                ends[field - 1] = ends[field];
            }
            count = Math.max(0, count - 1);
        }

        boolean same(int one, int other) {
            boolean same = lengthOf(one) == lengthOf(other);
            for (int i = 0; same && i < lengthOf(one); i++) {
                same = at(one, i) == at(other, i);
            }
            return same;
        }

        boolean is(int field, String word) {
            boolean same = lengthOf(field) == word.length();
            for (int i = 0; same && i < word.length(); i++) {
                same = at(field, i) == word.charAt(i);
            }
            return same;
        }

        /** 0 to 25 if the field is a letter, else NONE. */
        int letterOf(int field) {
            return lengthOf(field) == 1 && isLetter(at(field, 0)) ? at(field, 0) - 'a' : NONE;
        }

        void copyTo(int field, Row row) {
            row.empty();
            for (int i = 0; i < lengthOf(field); i++) {
                row.add(at(field, i));
            }
        }

        boolean isNumber(int field) {
            return field >= 0 && field < count && Names.isNumber(chars, starts[field], ends[field]);
        }

        /** The number that isNumber has found. */
        int numberOf(int field) {
            return field >= 0 && field < count
                    ? Names.numberIn(chars, starts[field], ends[field]) : 0;
        }
    }

    /** The files, by the order of their names. */
    private static final class Files {
        static final int MOST = 8, NAME_MOST = 8, TEXT_CHARS = 60;
        final Row[] names;
        final Row[] texts;
        int count;

        Files() {
            names = new Row[MOST];
            texts = new Row[MOST];
            for (int i = 0; i < MOST; i++) {
                names[i] = new Row(NAME_MOST);
                texts[i] = new Row(TEXT_CHARS);
            }
        }

        int find(Row name) {
            for (int i = 0; i < count && i < MOST; i++) {
                if (names[i].compare(name) == 0) {
                    return i;
                }
            }
            return NONE;
        }

        /** Finds a file, or makes it if it may be; NONE if it may not. */
        int findOrMake(Row name) {
            int found = find(name);
            if (found != NONE || count >= MOST) {
                return found;
            }
            int place = 0;
            while (place < count && names[place].compare(name) < 0) {
                place++;
            }
            Row freeName = names[count];
            Row freeText = texts[count];
            for (int i = count; i > place; i--) {
                names[i] = names[i - 1];
                texts[i] = texts[i - 1];
            }
            freeName.copyFrom(name);
            freeText.empty();
            names[place] = freeName;
            texts[place] = freeText;
            count++;
            return place;
        }

        void remove(int file) {
            if (file < 0 || file >= count || count > MOST) {
                return;
            }
            Row freeName = names[file];
            Row freeText = texts[file];
            for (int i = file; i + 1 < count; i++) {
                names[i] = names[i + 1];
                texts[i] = texts[i + 1];
            }
            count--;
            names[count] = freeName;
            texts[count] = freeText;
        }

        /** Does the name fit the pattern? On a wrong guess the last * takes a char more. */
        boolean fits(int file, int[] pattern, int from, int to) {
            Row name = names[file];
            int at = from;
            int place = 0;
            int star = NONE;
            int guess = 0;
            for (int step = 0; step < 100000 && (place < name.length || at < to); step++) {
                int item = at >= 0 && at < to && at < pattern.length ? pattern[at] : NONE;
                if (item == MARK) {
                    at++;
                } else if (item == '*') {
                    star = at;
                    guess = place;
                    at++;
                } else if (item != NONE && place < name.length
                        && (item == '?' || (item & CHAR_MASK) == name.chars[place])) {
                    at++;
                    place++;
                } else if (star != NONE && guess < name.length) {
                    guess++;
                    place = guess;
                    at = star + 1;
                } else {
                    return false;
                }
            }
            return true;
        }
    }

    /** The jobs by their numbers, with what has not come out of them. */
    private static final class Jobs {
        static final int MOST = 6;
        final Row[] outputs;
        final int[] states;
        final int[] statuses;
        int count;

        Jobs() {
            outputs = new Row[MOST];
            states = new int[MOST];
            statuses = new int[MOST];
            for (int i = 0; i < MOST; i++) {
                outputs[i] = new Row(OUTPUT_MOST);
            }
        }

        boolean has(int job) {
            return job >= 0 && job < count && job < MOST;
        }

        /** Gives a job that ends its number; false if there is none left. */
        boolean add(Row output, int status) {
            if (count >= MOST) {
                return false;
            }
            outputs[count].copyFrom(output);
            states[count] = GOING;
            statuses[count] = status;
            count++;
            return true;
        }

        int linesLeft(int job) {
            if (!has(job)) {
                return 0;
            }
            Row row = outputs[job];
            int lines = 0;
            for (int i = row.taken; i < row.length; i++) {
                if (row.at(i) == '\n' || i == row.length - 1) {
                    lines++;
                }
            }
            return lines;
        }

        void drop(int job) {
            if (has(job)) {
                outputs[job].taken = outputs[job].length;
            }
        }

        void giveAll(int job, Row output) {
            if (has(job)) {
                output.take(outputs[job]);
            }
        }

        /** Lets each job that goes give its next line; how many did. */
        int tick(Row output) {
            int lines = 0;
            for (int job = 0; job < count && job < MOST; job++) {
                if (states[job] == GOING) {
                    Row row = outputs[job];
                    if (row.taken < row.length) {
                        giveLine(row, output);
                        lines++;
                    }
                    if (row.taken >= row.length) {
                        states[job] = ENDED;
                    }
                }
            }
            return lines;
        }

        private static void giveLine(Row row, Row output) {
            boolean more = true;
            while (more && row.taken < row.length) {
                int c = row.at(row.taken);
                output.add(c);
                row.taken++;
                more = c != '\n';
            }
        }
    }

    /** A function: its name and its list, as they stand in the code that defined it. */
    private static final class Function {
        final int[] code;
        final int nameAt;
        final int start;
        final int end;

        Function(int[] code, int nameAt, int start, int end) {
            this.code = code;
            this.nameAt = nameAt;
            this.start = start;
            this.end = end;
        }

        boolean isNamed(int[] other, int otherAt, int length) {
            boolean same = length == start - nameAt;
            for (int i = 0; same && i < length; i++) {
                same = codeAt(code, nameAt + i) == codeAt(other, otherAt + i);
            }
            return same;
        }

        boolean isNamed(Fields fields, int field) {
            boolean same = fields.lengthOf(field) == start - nameAt;
            for (int i = 0; same && i < start - nameAt; i++) {
                same = codeAt(code, nameAt + i) == fields.at(field, i);
            }
            return same;
        }
    }

    private static int codeAt(int[] code, int place) {
        return place >= 0 && place < code.length ? code[place] : OP_NOTHING;
    }

    /** A simple command while it is expanded and run. */
    private static final class Command {
        static final int WORDS_BY_ONE = 8;
        /** All chars of a command, and a mark for each two chars of a text, and some to spare. */
        static final int ITEMS_MOST = 192;
        /** A choice takes three chars at least. */
        static final int CHOICES_MOST = 48;
        final Fields args;
        /** The word that is expanded now. */
        final int[] word;
        int length;
        /** How many chars the words may still have. */
        int left;
        int start;
        int back;
        /** What the word is for: OP_WORD, OP_OUT, OP_BEHIND, OP_IN or OP_ASSIGN. */
        int doing;
        /** Which one is taken of the choices that the word meets, and of how many. */
        final int[] chosen;
        final int[] sizes;
        int met;
        int known;
        int made;
        /** Is the output of the command in a word, that runs now, quoted? */
        boolean quoting;
        /** The status of the last command in a word; NONE without one. */
        int inWords;
        final Row fileIn;
        final Row fileOut;
        final Row fileName;
        boolean takes;
        boolean gives;

        Command() {
            args = new Fields();
            word = new int[ITEMS_MOST];
            chosen = new int[CHOICES_MOST];
            sizes = new int[CHOICES_MOST];
            fileIn = new Row(Files.TEXT_CHARS);
            fileOut = new Row(OUTPUT_MOST);
            fileName = new Row(Files.NAME_MOST);
            inWords = NONE;
        }

        void begin() {
            args.empty();
            left = TEXT_MOST;
            inWords = NONE;
            takes = false;
            gives = false;
        }

        void beginWord(int what, int from, int behind) {
            doing = what;
            start = from;
            back = behind;
            known = 0;
            made = 0;
            beginAgain();
        }

        /** Begins the word again, for its next choices. */
        void beginAgain() {
            length = 0;
            met = 0;
        }

        void put(int c, boolean quoted) {
            if (left > 0 && length < ITEMS_MOST) {
                left--;
                word[length] = quoted ? c | QUOTED : c;
                length++;
            }
        }

        void mark() {
            if (length < ITEMS_MOST) {
                word[length] = MARK;
                length++;
            }
        }

        void putRow(Row row, int most, boolean quoted) {
            for (int i = 0; i < most && i < row.length; i++) {
                put(row.at(i), quoted);
            }
        }

        int choose(int size) {
            if (met >= CHOICES_MOST) {
                return 0;
            }
            if (met >= known) {
                chosen[met] = 0;
                known = met + 1;
            }
            sizes[met] = size;
            met++;
            return chosen[met - 1];
        }

        /** Turns to the choices of the next word; false if there is none, or may be none. */
        boolean chooseNext() {
            made++;
            if (made >= WORDS_BY_ONE) {
                return false;
            }
            for (int i = Math.min(known, CHOICES_MOST) - 1; i >= 0; i--) {
                if (chosen[i] + 1 < sizes[i]) {
                    chosen[i]++;
                    known = i + 1;
                    return true;
                }
            }
            return false;
        }

        /** Cuts the word into fields. */
        void cut(Files files) {
            int from = 0;
            for (int i = 0; i <= length; i++) {
                if (i == length || isGap(i)) {
                    if (i > from) {
                        addField(files, from, i);
                    }
                    from = i + 1;
                }
            }
        }

        private boolean isGap(int place) {
            return place < ITEMS_MOST && (word[place] == ' ' || word[place] == '\n');
        }

        private void addField(Files files, int from, int to) {
            boolean fits = false;
            if (isPattern(from, to)) {
                for (int file = 0; file < files.count; file++) {
                    if (files.fits(file, word, from, to)) {
                        fits = true;
                        args.addRow(files.names[file]);
                    }
                }
            }
            if (!fits && args.begin()) {
                for (int i = from; i < to && i < ITEMS_MOST; i++) {
                    if (word[i] != MARK) {
                        args.add(word[i] & CHAR_MASK);
                    }
                }
            }
        }

        private boolean isPattern(int from, int to) {
            for (int i = from; i < to && i < ITEMS_MOST; i++) {
                if (word[i] == '*' || word[i] == '?') {
                    return true;
                }
            }
            return false;
        }

        /** Makes the word the name of the file; false if it is a wrong one. */
        boolean nameFile(Row name) {
            name.empty();
            int chars = 0;
            for (int i = 0; i < length && i < ITEMS_MOST; i++) {
                if (word[i] != MARK) {
                    name.add(word[i] & CHAR_MASK);
                    chars++;
                }
            }
            return chars >= 1 && chars <= Files.NAME_MOST;
        }

        void assign(Names names, int name) {
            names.begin(name);
            for (int i = 0; i < length && i < ITEMS_MOST; i++) {
                if (word[i] != MARK) {
                    names.add(name, word[i] & CHAR_MASK);
                }
            }
        }
    }

    /** A shell, a subshell or a function that runs. */
    private static final class Level {
        /** 512 calls type at most 512 chars, and a function takes five of them at least. */
        static final int FUNCTIONS_MOST = 104;
        /** A while takes some 15 chars of a text. */
        static final int LOOPS_MOST = 16;
        /** What is run at a level; a subshell is of the op that runs it. */
        static final int AS_SHELL = 0, AS_FUNCTION = 1;
        int kind;
        /** The shell or subshell that it runs in. */
        Level home;
        /** The names of a shell; of a function what those that are local were. */
        final Names names;
        final Fields params;
        final Function[] functions;
        int functionCount;
        int status;
        int[] code;
        int at;
        int end;
        Row in;
        Row out;
        /** What comes to it from a pipe, and what it gives to one, or to a word, or to a job. */
        final Row piped;
        final Row caught;
        final Command command;
        /** The whiles that run: where each ends, and the status of its last do. */
        final int[] loopEnds;
        final int[] loopStatuses;
        int loops;

        Level() {
            names = new Names();
            params = new Fields();
            functions = new Function[FUNCTIONS_MOST];
            code = new int[0];
            piped = new Row(OUTPUT_MOST);
            caught = new Row(OUTPUT_MOST);
            in = piped;
            out = caught;
            command = new Command();
            loopEnds = new int[LOOPS_MOST];
            loopStatuses = new int[LOOPS_MOST];
        }

        void begin(int what, int[] where, int from, int to) {
            kind = what;
            code = where;
            at = from;
            end = to;
            loops = 0;
        }

        /** The int of the code at which it is, and goes on behind it. */
        int next() {
            int got = codeAt(code, at);
            at++;
            return got;
        }

        void becomeSubshell(Level from) {
            Level shell = from.home;
            names.copyAll(shell.names);
            params.copyFrom(from.params, 0);
            functionCount = Math.min(shell.functionCount, FUNCTIONS_MOST);
            for (int i = 0; i < functionCount; i++) {
                functions[i] = shell.functions[i];
            }
            status = shell.status;
        }

        void define(Function function) {
            int place = 0;
            int length = function.start - function.nameAt;
            while (place < functionCount && place < FUNCTIONS_MOST && functions[place] != null
                    && !functions[place].isNamed(function.code, function.nameAt, length)) {
                place++;
            }
            if (place >= 0 && place < FUNCTIONS_MOST) {
                functions[place] = function;
                functionCount = Math.max(functionCount, place + 1);
            }
        }

        Function functionNamedBy(Fields args) {
            for (int i = 0; i < functionCount && i < FUNCTIONS_MOST; i++) {
                if (functions[i] != null && functions[i].isNamed(args, 0)) {
                    return functions[i];
                }
            }
            return null;
        }

        void beginLoop(int loopEnd) {
            if (loops < LOOPS_MOST) {
                loopEnds[loops] = loopEnd;
                loopStatuses[loops] = 0;
                loops++;
            }
        }

        /** Ends the innermost while; the status of its last do. */
        int endLoop() {
            if (loops < 1 || loops > LOOPS_MOST) {
                return 0;
            }
            loops--;
            at = loopEnds[loops];
            return loopStatuses[loops];
        }

        void keepDo(int doStatus) {
            if (loops >= 1 && loops <= LOOPS_MOST) {
                loopStatuses[loops - 1] = doStatus;
            }
        }

        /** Makes a function end with its next step; false if it is none. */
        boolean endFunction() {
            if (kind != AS_FUNCTION) {
                return false;
            }
            stop();
            return true;
        }

        /** Makes it end with its next step. */
        void stop() {
            at = end;
        }
    }

    /**
     * Reads the text from the left, and finds its first fault or makes its code. What stands
     * open is on a stack of frames: lists, simple commands, words and what is in words.
     */
    private static final class Reader {
        private static final int BEGIN = 0, AFTER = 1, WORDS = 2, INSIDE = 3, READ = 4;

        private static final int IN_TEXT = 0, IN_PAREN = 1, IN_BRACE = 2, IN_BODY = 3, IN_IF = 4,
                IN_THEN = 5, IN_ELSE = 6, IN_WHILE = 7, IN_DO = 8, IN_COMMAND = 9, IN_SIMPLE = 10,
                IN_WORD = 11, IN_CHOICE = 12, IN_DEFAULT = 13, IN_QUOTES = 14;

        /** A list: where its part and its piece begin, is that behind a |, what && or || skips. */
        private static final int KIND = 0, PART = 1, PIECE = 2, PIPED = 3, SKIP = 4;
        /** Places in the code, or counts, as the kind needs them; and is it quoted (1 or 0)? */
        private static final int FIRST = 5, SECOND = 6, IS_QUOTED = 7, SLOTS = 8;

        /** $( opens three frames with two chars, and nothing opens more. */
        private static final int FRAMES_MOST = 192;
        /** a; makes seven instructions of two chars, and nothing makes more. */
        private static final int CODE_MOST = 1024;
        private static final int STEPS_MOST = 100000;

        final int[] code;
        int used;
        int fault;
        private final int[] stack;
        private final int[] entries;
        private int entryCount;
        private int depth;
        private char[] chars;
        private int length;
        private int at;
        private int mode;
        private boolean mayEnd;
        private boolean row;

        Reader() {
            code = new int[CODE_MOST];
            stack = new int[FRAMES_MOST * SLOTS];
            entries = new int[TEXT_MOST + 1];
            chars = new char[0];
            fault = NONE;
        }

        /** Reads the text as a list, or as a row of words. */
        void read(Row text, boolean asRow) {
            chars = text.chars;
            length = text.length;
            row = asRow;
            at = 0;
            used = 0;
            fault = NONE;
            entryCount = 0;
            depth = NONE;
            if (row) {
                openSimple();
            } else {
                push(IN_TEXT, NONE, 0);
                beginList();
            }
            for (int step = 0; step < STEPS_MOST && mode != READ; step++) {
                switch (mode) {
                    case BEGIN: begin(); break;
                    case AFTER: after(); break;
                    case WORDS: words(); break;
                    default: inside(); break;
                }
            }
        }

        int[] copyOfCode() {
            return Arrays.copyOf(code, Math.max(0, Math.min(used, CODE_MOST)));
        }

        private void fail(int place) {
            fault = place;
            mode = READ;
        }

        // -- the stack of frames

        private void push(int kind, int first, int quoted) {
            if (depth + 1 >= FRAMES_MOST) {
                fail(at);
                return;
            }
            depth++;
            for (int slot = 0; slot < SLOTS; slot++) {
                set(slot, NONE);
            }
            set(KIND, kind);
            set(FIRST, first);
            set(IS_QUOTED, quoted);
        }

        private void pop() {
            depth--;
        }

        private int get(int slot) {
            int place = depth * SLOTS + slot;
            return depth >= 0 && place < stack.length ? stack[place] : NONE;
        }

        private void set(int slot, int value) {
            int place = depth * SLOTS + slot;
            if (depth >= 0 && place < stack.length) {
                stack[place] = value;
            }
        }

        // -- the code

        private int raw(int value) {
            if (used >= CODE_MOST) {
                fault = at;
                mode = READ;
                return used;
            }
            code[used] = value;
            used++;
            return used - 1;
        }

        private int emit(int op, int arg) {
            return raw(op | arg << OP_BITS);
        }

        private void patch(int place, int value) {
            if (place >= 0 && place < used) {
                code[place] = value;
            }
        }

        /** Gives an instruction its argument: the place that comes next. */
        private void patchToHere(int place) {
            if (place >= 0 && place < used) {
                code[place] = code[place] & OP_MASK | used << OP_BITS;
            }
        }

        private void become(int place, int op) {
            patch(place, op | used << OP_BITS);
        }

        // -- the chars

        private int peek(int ahead) {
            int place = at + ahead;
            return place >= 0 && place < length && place < chars.length ? chars[place] : NONE;
        }

        private void skipBlanks() {
            while (at < length && peek(0) == ' ') {
                at++;
            }
        }

        private int lettersAhead() {
            int count = 0;
            while (count < length && isLetter(peek(count))) {
                count++;
            }
            return count;
        }

        /** Is the word here, the whole of it, this one? */
        private boolean sees(String word) {
            int behind = peek(word.length());
            boolean same = !startsWord(behind) && behind != '{';
            for (int i = 0; same && i < word.length(); i++) {
                same = peek(i) == word.charAt(i);
            }
            return same;
        }

        private boolean seesCloser() {
            return sees("then") || sees("else") || sees("fi") || sees("do") || sees("done");
        }

        // -- lists

        private void beginList() {
            set(PART, NONE);
            set(PIECE, NONE);
            set(PIPED, NONE);
            set(SKIP, NONE);
            mayEnd = false;
            if (fault == NONE) {
                mode = BEGIN;
            }
        }

        private void expectCommand(boolean orEnd) {
            if (fault == NONE) {
                mode = BEGIN;
            }
            mayEnd = orEnd;
        }

        private void begin() {
            skipBlanks();
            int c = peek(0);
            if (isLetter(c) && !seesCloser()) {
                beginWithLetters();
            } else if (c == '(') {
                beginCommand();
                openList(IN_PAREN, emit(OP_PAREN, 0), 1);
            } else if (c == '{') {
                beginCommand();
                openList(IN_BRACE, NONE, 1);
            } else if (!isLetter(c) && startsWord(c) || c == '>' || c == '<') {
                beginCommand();
                openSimple();
            } else {
                closeList(c);
            }
        }

        private void beginWithLetters() {
            int letters = lettersAhead();
            beginCommand();
            if (sees("if")) {
                openList(IN_IF, NONE, 2);
            } else if (sees("while")) {
                openList(IN_WHILE, emit(OP_WHILE, 0), 5);
            } else if (peek(letters) == '(') {
                openBody(letters);
            } else {
                openSimple();
            }
        }

        /** The code of a part and of a piece begins with a place for what they may become. */
        private void beginCommand() {
            if (get(PART) == NONE) {
                set(PART, emit(OP_NOTHING, 0));
            }
            set(PIECE, emit(OP_NOTHING, 0));
        }

        private void openList(int kind, int first, int chars) {
            at += chars;
            push(kind, first, 0);
            beginList();
        }

        private void openBody(int letters) {
            if (peek(letters + 1) != ')') {
                fail(at + letters + 1);
                return;
            }
            int define = emit(OP_DEFINE, letters);
            raw(0);
            for (int i = 0; i < letters; i++) {
                raw(peek(i));
            }
            at += letters + 2;
            skipBlanks();
            if (peek(0) != '{') {
                fail(at);
                return;
            }
            openList(IN_BODY, define, 1);
        }

        private void endCommand() {
            if (fault == NONE) {
                mode = row ? READ : AFTER;
            }
            mayEnd = true;
        }

        private void after() {
            skipBlanks();
            int c = peek(0);
            boolean twice = peek(1) == c;
            if (c == '|' && !twice) {
                become(get(PIECE), get(PIPED) == NONE ? OP_PIPE_FIRST : OP_PIPE_MIDDLE);
                set(PIPED, 1);
                at++;
                expectCommand(false);
                return;
            }
            endPipe();
            if (twice && (c == '|' || c == '&')) {
                set(SKIP, emit(c == '&' ? OP_JUMP_IF_NOT : OP_JUMP_IF, 0));
                at += 2;
                expectCommand(false);
            } else if (c == ';' || c == '&') {
                if (c == '&') {
                    become(get(PART), OP_JOB);
                }
                set(PART, NONE);
                at++;
                expectCommand(true);
            } else {
                closeList(c);
            }
        }

        private void endPipe() {
            if (get(PIPED) != NONE) {
                become(get(PIECE), OP_PIPE_LAST);
                set(PIPED, NONE);
            }
            if (get(SKIP) != NONE) {
                patchToHere(get(SKIP));
                set(SKIP, NONE);
            }
        }

        private void closeList(int c) {
            int kind = get(KIND);
            if (!mayEnd) {
                fail(at);
            } else if (c == NONE && kind == IN_TEXT) {
                mode = READ;
            } else if (c == ')' && kind == IN_PAREN) {
                closeCompound(get(FIRST), 1);
            } else if (c == ')' && kind == IN_COMMAND) {
                patch(get(FIRST) + 1, used);
                pop();
                at++;
                mode = INSIDE;
            } else if (c == '}' && kind == IN_BRACE) {
                closeCompound(NONE, 1);
            } else if (c == '}' && kind == IN_BODY) {
                patch(get(FIRST) + 1, used);
                closeCompound(NONE, 1);
            } else if (isLetter(c)) {
                closeWithLetters(kind);
            } else {
                fail(at);
            }
        }

        private void closeCompound(int toPatch, int chars) {
            if (toPatch != NONE) {
                patchToHere(toPatch);
            }
            at += chars;
            pop();
            endCommand();
        }

        private void closeWithLetters(int kind) {
            if (kind == IN_IF && sees("then")) {
                turnList(IN_THEN, 4);
                set(FIRST, emit(OP_JUMP_IF_NOT, 0));
            } else if (kind == IN_THEN && sees("else")) {
                turnList(IN_ELSE, 4);
                set(SECOND, emit(OP_JUMP, 0));
                patchToHere(get(FIRST));
            } else if (kind == IN_THEN && sees("fi")) {
                int over = emit(OP_JUMP, 0);
                patchToHere(get(FIRST));
                emit(OP_ZERO, 0);
                closeCompound(over, 2);
            } else if (kind == IN_ELSE && sees("fi")) {
                closeCompound(get(SECOND), 2);
            } else if (kind == IN_WHILE && sees("do")) {
                turnList(IN_DO, 2);
                emit(OP_TEST, 0);
            } else if (kind == IN_DO && sees("done")) {
                emit(OP_AGAIN, get(FIRST) + 1);
                closeCompound(get(FIRST), 4);
            } else {
                fail(at);
            }
        }

        /** The next list of an if or while begins in the same frame. */
        private void turnList(int kind, int chars) {
            set(KIND, kind);
            at += chars;
            beginList();
        }

        // -- simple commands

        private void openSimple() {
            push(IN_SIMPLE, emit(OP_SIMPLE, 0), 0);
            set(SECOND, entryCount);
            mode = WORDS;
        }

        private void words() {
            skipBlanks();
            int c = peek(0);
            if (startsWord(c) || c == '{') {
                if (!row && get(PIPED) == NONE && isLetter(c) && peek(1) == '=') {
                    openAssignment(c - 'a');
                } else {
                    // the frame of a simple command has no pipe: its slot tells of a word
                    set(PIPED, 1);
                    openWord(OP_WORD);
                }
            } else if (!row && (c == '>' || c == '<')) {
                openRedirection(c);
            } else if (row && c != NONE) {
                fail(at);
            } else {
                closeSimple();
            }
        }

        private void openWord(int what) {
            addEntry(what);
            push(IN_WORD, what, 0);
            if (fault == NONE) {
                mode = INSIDE;
            }
        }

        private void openAssignment(int letter) {
            addEntry(OP_ASSIGN);
            raw(letter);
            at += 2;
            push(IN_WORD, OP_ASSIGN, 0);
            if (fault == NONE) {
                mode = INSIDE;
            }
        }

        private void openRedirection(int c) {
            boolean twice = c == '>' && peek(1) == '>';
            at += twice ? 2 : 1;
            skipBlanks();
            if (!startsWord(peek(0))) {
                fail(at);
            } else if (c == '<') {
                openWord(OP_IN);
            } else {
                openWord(twice ? OP_BEHIND : OP_OUT);
            }
        }

        private void addEntry(int what) {
            if (entryCount < entries.length) {
                entries[entryCount] = what | used << OP_BITS;
                entryCount++;
            }
        }

        /** Behind its words' code the command gets them in the order in which they are done. */
        private void closeSimple() {
            int first = Math.max(0, get(SECOND));
            patchToHere(get(FIRST));
            emitEntries(first, OP_WORD, OP_WORD);
            emitEntries(first, OP_OUT, OP_IN);
            emitEntries(first, OP_ASSIGN, OP_ASSIGN);
            if (!row) {
                emit(OP_PERFORM, 0);
            }
            entryCount = first;
            pop();
            endCommand();
        }

        private void emitEntries(int first, int least, int most) {
            for (int i = first; i < entryCount && i < entries.length; i++) {
                int what = entries[i] & OP_MASK;
                if (what >= least && what <= most) {
                    raw(entries[i]);
                }
            }
        }

        // -- words

        private void inside() {
            int kind = get(KIND);
            int c = peek(0);
            if (c == NONE && kind != IN_WORD) {
                fail(at);
            } else if (c == '$') {
                dollar();
            } else if (kind == IN_QUOTES) {
                insideQuotes(c);
            } else if (isPlain(c) && !(c == ',' && kind == IN_CHOICE)) {
                literal(c, get(IS_QUOTED) == 1);
            } else if (c == '\\') {
                backslash();
            } else if (c == '\'') {
                singleQuotes();
            } else if (c == '"') {
                emit(OP_MARK, 0);
                push(IN_QUOTES, NONE, 1);
                at++;
            } else {
                sign(kind, c);
            }
        }

        private void literal(int c, boolean quoted) {
            emit(quoted ? OP_QUOTED : OP_CHAR, c);
            at++;
        }

        private void insideQuotes(int c) {
            int next = peek(1);
            if (c == '"') {
                pop();
                at++;
            } else if (c == '\\' && (next == '"' || next == '\\' || next == '$')) {
                at++;
                literal(next, true);
            } else {
                literal(c, true);
            }
        }

        private void backslash() {
            int c = peek(1);
            if (c == NONE) {
                fail(length);
                return;
            }
            emit(OP_MARK, 0);
            at++;
            literal(c, true);
        }

        private void singleQuotes() {
            emit(OP_MARK, 0);
            at++;
            while (at < length && peek(0) != '\'') {
                literal(peek(0), true);
            }
            if (at >= length) {
                fail(length);
            } else {
                at++;
            }
        }

        /** A char that is no part of a word by itself. */
        private void sign(int kind, int c) {
            boolean choices = kind == IN_CHOICE || kind == IN_WORD && get(FIRST) == OP_WORD;
            if (c == '{' && choices) {
                openChoices();
            } else if (kind == IN_WORD && c != '{') {
                closeWord();
            } else if (kind == IN_CHOICE && c == ',') {
                nextChoice();
            } else if (kind == IN_CHOICE && c == '}' && get(PIECE) > 1) {
                closeChoices();
            } else if (kind == IN_DEFAULT && c == '}') {
                patch(get(FIRST) + 1, used);
                pop();
                at++;
            } else {
                fail(at);
            }
        }

        private void closeWord() {
            emit(OP_WORD_END, 0);
            pop();
            if (fault == NONE) {
                mode = WORDS;
            }
        }

        /** In the code: how many choices, and ahead of each one a link to the next one. */
        private void openChoices() {
            int place = emit(OP_CHOICES, 0);
            int link = raw(NONE);
            push(IN_CHOICE, place, 0);
            set(SECOND, link);
            set(PIECE, 1);
            at++;
        }

        private void nextChoice() {
            patch(get(SECOND), used);
            emit(OP_NEXT, 0);
            set(SECOND, raw(NONE));
            set(PIECE, get(PIECE) + 1);
            at++;
        }

        private void closeChoices() {
            int place = get(FIRST);
            int size = get(PIECE);
            patch(place, OP_CHOICES | size << OP_BITS);
            int next = codeAt(code, place + 1);
            for (int i = 1; i < size && next > 0; i++) {
                patchToHere(next);
                next = codeAt(code, next + 1);
            }
            pop();
            at++;
        }

        // -- $ things

        private void dollar() {
            int quoted = get(IS_QUOTED) == 1 ? 1 : 0;
            int c = peek(1);
            if (isLetter(c)) {
                thing(OP_NAME, (c - 'a') * 2 + quoted, 2);
            } else if (isDigit(c) && c != '0') {
                thing(OP_PARAMETER, (c - '1') * 2 + quoted, 2);
            } else if (c == '#') {
                thing(OP_COUNT, quoted, 2);
            } else if (c == '?') {
                thing(OP_STATUS, quoted, 2);
            } else if (c == '{') {
                braces(quoted);
            } else if (c == '(' && peek(2) == '(') {
                sum(quoted);
            } else if (c == '(' && !row) {
                int place = emit(OP_COMMAND, quoted);
                raw(0);
                openList(IN_COMMAND, place, 2);
            } else {
                fail(at + 1);
            }
        }

        private void thing(int op, int arg, int chars) {
            emit(op, arg);
            at += chars;
        }

        private void braces(int quoted) {
            boolean isLength = peek(2) == '#';
            int letter = isLength ? 3 : 2;
            int c = peek(letter);
            int next = peek(letter + 1);
            if (!isLetter(c)) {
                fail(at + letter);
            } else if (next == '}') {
                thing(isLength ? OP_LENGTH : OP_NAME, (c - 'a') * 2 + quoted, letter + 2);
            } else if (next != ':' || isLength) {
                fail(at + letter + 1);
            } else if (peek(4) != '-' && peek(4) != '+') {
                fail(at + 4);
            } else {
                int place = emit(peek(4) == '-' ? OP_OR : OP_AND, (c - 'a') * 2 + quoted);
                raw(0);
                push(IN_DEFAULT, place, quoted);
                at += 5;
            }
        }

        private void sum(int quoted) {
            int place = emit(OP_SUM, quoted);
            raw(0);
            at += 3;
            while (at < length && peek(0) != '(' && peek(0) != ')') {
                raw(peek(0));
                at++;
            }
            if (peek(0) != ')') {
                fail(at);
            } else if (peek(1) != ')') {
                fail(at + 1);
            } else {
                at += 2;
                patch(place + 1, used);
            }
        }
    }

    /** Works the code off, step by step; what runs in one another is on a stack of levels. */
    private static final class Machine {
        private static final int COMMANDS_MOST = 30, LEVELS_MOST = 12;
        private static final int STEPS_MOST = 1000000;
        private static final int TOO_MUCH = 126, UNKNOWN = 127;

        private static final int ECHO = 0, TRUE = 1, FALSE = 2, CAT = 3, WC = 4, TEST = 5, SET = 6,
                SHIFT = 7, LOCAL = 8, RM = 9, BREAK = 10, RETURN = 11, EXIT = 12;

        final Files files;
        final Jobs jobs;
        final Row output;
        /** The outermost shell. */
        final Level shell;
        private final Level[] levels;
        private final Row digits;
        private final Row wanted;
        private Level top;
        private int depth;
        private int commands;
        private boolean going;
        private boolean tooMuch;
        /** Does exit end the functions that run, and then their shell? */
        private boolean exiting;

        Machine() {
            files = new Files();
            jobs = new Jobs();
            output = new Row(OUTERMOST_MOST);
            shell = new Level();
            shell.home = shell;
            shell.out = output;
            levels = new Level[LEVELS_MOST + 1];
            levels[0] = shell;
            digits = new Row(12);
            wanted = new Row(Files.NAME_MOST);
            top = shell;
        }

        /**
         * Works off the code of the outermost shell. That of a row of words has no commands in
         * it, so that nothing changes but the args of the outermost shell's command.
         */
        void go(int[] code, int end) {
            shell.begin(Level.AS_SHELL, code, 0, end);
            top = shell;
            depth = 0;
            commands = 0;
            tooMuch = false;
            exiting = false;
            going = true;
            for (int steps = 0; steps < STEPS_MOST && going; steps++) {
                Level level = top;
                if (exiting && level.kind != Level.AS_FUNCTION) {
                    exiting = false;
                    level.stop();
                }
                if (exiting || level.at >= level.end) {
                    leave(level);
                } else {
                    makeLevelAbove();
                    step(level, level.next());
                }
            }
            if (going || tooMuch) {
                endAll();
            }
        }

        /** So that the next step may enter one. */
        private void makeLevelAbove() {
            if (depth >= 0 && depth < LEVELS_MOST && levels[depth + 1] == null) {
                levels[depth + 1] = new Level();
            }
        }

        private void step(Level level, int instruction) {
            int op = instruction & OP_MASK;
            int arg = instruction >>> OP_BITS;
            if (op == OP_PERFORM) {
                perform(level);
            } else if (op == OP_WORD_END) {
                endWord(level);
            } else if (op >= OP_OR) {
                wideStep(level, op, arg);
            } else if (op >= OP_CHAR) {
                wordStep(level, op, arg);
            } else if (op >= OP_SIMPLE) {
                commandStep(level, op, arg);
            } else {
                listStep(level, op, arg);
            }
        }

        private void stopAll() {
            tooMuch = true;
            going = false;
        }

        /** All ends with too much: functions give back what was local, files get their output. */
        private void endAll() {
            for (int i = Math.min(depth, LEVELS_MOST); i > 0; i--) {
                Level level = levels[i];
                Level below = levels[i - 1];
                if (level != null && below != null && level.kind == Level.AS_FUNCTION) {
                    giveBack(level);
                    endFiles(below.command);
                }
            }
            shell.status = TOO_MUCH;
        }

        // -- levels

        /** A level more; null, and all ends, if there are too many. */
        private Level enter(int kind, Level from, int[] code, int start, int end) {
            Level level = depth >= 0 && depth < LEVELS_MOST ? levels[depth + 1] : null;
            if (level == null) {
                stopAll();
                return null;
            }
            depth++;
            level.begin(kind, code, start, end);
            level.in = from.in;
            level.out = from.out;
            top = level;
            return level;
        }

        /** What stands from here to the end runs in a subshell, which the op tells more of. */
        private Level enterSubshell(int op, Level from, int end) {
            int start = from.at;
            from.at = end;
            Level level = enter(op, from, from.code, start, end);
            if (level != null) {
                level.becomeSubshell(from);
                level.home = level;
            }
            return level;
        }

        /** Its output is kept; it has no input if there is none from a pipe. */
        private void enterCaught(int op, Level from, int end) {
            Level level = enterSubshell(op, from, end);
            if (level != null) {
                level.piped.empty();
                level.in = level.piped;
                level.caught.empty();
                level.out = level.caught;
            }
        }

        /** The pieces of a pipe run at the same level, so that it still has the last output. */
        private void enterPiece(int op, Level from, int end) {
            Level level = enterSubshell(op, from, end);
            if (level == null) {
                return;
            }
            if (op != OP_PIPE_FIRST) {
                level.piped.copyFrom(level.caught);
                level.in = level.piped;
            }
            if (op != OP_PIPE_LAST) {
                level.caught.empty();
                level.out = level.caught;
            }
        }

        private void leave(Level level) {
            Level below = depth > 0 && depth <= LEVELS_MOST ? levels[depth - 1] : null;
            if (below == null) {
                going = false;
                return;
            }
            depth--;
            top = below;
            switch (level.kind) {
                case Level.AS_FUNCTION:
                    giveBack(level);
                    endFiles(below.command);
                    break;
                case OP_PAREN:
                case OP_PIPE_LAST:
                    below.home.status = level.status;
                    break;
                case OP_COMMAND:
                    putOutput(below.command, level);
                    break;
                case OP_JOB:
                    if (jobs.add(level.caught, level.status)) {
                        below.home.status = 0;
                    } else {
                        stopAll();
                    }
                    break;
                default:
                    break;
            }
        }

        private void giveBack(Level function) {
            for (int name = 0; name < LETTERS; name++) {
                if (function.names.isKept(name)) {
                    function.home.names.copyOne(function.names, name);
                }
            }
        }

        private void putOutput(Command command, Level level) {
            int end = level.caught.length;
            while (end > 0 && level.caught.at(end - 1) == '\n') {
                end--;
            }
            command.putRow(level.caught, end, command.quoting);
            command.inWords = level.status;
        }

        // -- lists

        private void listStep(Level level, int op, int arg) {
            Level home = level.home;
            switch (op) {
                case OP_JUMP:
                    level.at = arg;
                    break;
                case OP_JUMP_IF_NOT:
                    level.at = home.status != 0 ? arg : level.at;
                    break;
                case OP_JUMP_IF:
                    level.at = home.status == 0 ? arg : level.at;
                    break;
                case OP_ZERO:
                    home.status = 0;
                    break;
                case OP_WHILE:
                    level.beginLoop(arg);
                    break;
                case OP_TEST:
                    home.status = home.status != 0 ? level.endLoop() : 0;
                    break;
                case OP_AGAIN:
                    level.keepDo(home.status);
                    level.at = arg;
                    break;
                case OP_PAREN:
                    enterSubshell(op, level, arg);
                    break;
                case OP_PIPE_FIRST:
                case OP_PIPE_MIDDLE:
                case OP_PIPE_LAST:
                    enterPiece(op, level, arg);
                    break;
                case OP_JOB:
                    enterCaught(op, level, arg);
                    break;
                case OP_DEFINE:
                    define(level, arg);
                    break;
                default:
                    break;
            }
        }

        /** Counts a simple command or a definition; false, and all ends, if there are too many. */
        private boolean mayGoOn() {
            commands++;
            if (commands > COMMANDS_MOST) {
                stopAll();
            }
            return !tooMuch;
        }

        private void define(Level level, int nameLength) {
            if (!mayGoOn()) {
                return;
            }
            int end = level.next();
            int start = level.at + nameLength;
            level.home.define(new Function(level.code, level.at, start, end));
            level.home.status = 0;
            level.at = end;
        }

        // -- simple commands

        private void commandStep(Level level, int op, int arg) {
            Command command = level.command;
            switch (op) {
                case OP_SIMPLE:
                    if (mayGoOn()) {
                        command.begin();
                        level.at = arg;
                    }
                    break;
                case OP_WORD:
                case OP_OUT:
                case OP_BEHIND:
                case OP_IN:
                    command.beginWord(op, arg, level.at);
                    level.at = arg;
                    break;
                case OP_ASSIGN:
                    // the letter stands ahead of its word
                    command.beginWord(op, arg, level.at);
                    level.at = arg + 1;
                    break;
                default:
                    break;
            }
        }

        /** A word is expanded: it is used, or comes again with its next choices. */
        private void endWord(Level level) {
            Command command = level.command;
            if (command.doing == OP_WORD) {
                command.cut(files);
                if (command.chooseNext()) {
                    command.beginAgain();
                    level.at = command.start;
                    return;
                }
            } else if (command.doing == OP_ASSIGN) {
                command.assign(level.home.names, codeAt(level.code, command.start));
            } else if (!redirect(command)) {
                level.home.status = 1;
                skipCommand(level);
                return;
            }
            level.at = command.back;
        }

        private boolean redirect(Command command) {
            if (!command.nameFile(wanted)) {
                return false;
            }
            boolean in = command.doing == OP_IN;
            int file = in ? files.find(wanted) : files.findOrMake(wanted);
            if (file == NONE) {
                return false;
            }
            if (in) {
                command.takes = true;
                command.fileIn.copyFrom(files.texts[file]);
                return true;
            }
            if (command.doing == OP_OUT) {
                files.texts[file].empty();
            }
            command.gives = true;
            command.fileName.copyFrom(wanted);
            command.fileOut.empty();
            return true;
        }

        private void skipCommand(Level level) {
            int place = level.command.back;
            while (place < level.end && (codeAt(level.code, place) & OP_MASK) != OP_PERFORM) {
                place++;
            }
            level.at = place + 1;
        }

        /**
         * What was run has ended: its output goes to the file. A file for > was made empty ahead of
         * that, so what it has by now came into it meanwhile and stays.
         */
        private void endFiles(Command command) {
            if (!command.gives) {
                return;
            }
            int file = files.findOrMake(command.fileName);
            if (file != NONE) {
                files.texts[file].take(command.fileOut);
            }
            command.gives = false;
        }

        private void perform(Level level) {
            Command command = level.command;
            if (command.args.count == 0) {
                level.home.status = Math.max(0, command.inWords);
                return;
            }
            Function function = level.home.functionNamedBy(command.args);
            if (function != null) {
                call(level, function);
                return;
            }
            int tool = toolNamedBy(command.args);
            level.home.status = use(level, tool);
            endFiles(command);
            exiting = tool == EXIT;
        }

        private void call(Level level, Function function) {
            Command command = level.command;
            int[] code = function.code;
            Level next = enter(Level.AS_FUNCTION, level, code, function.start, function.end);
            if (next == null) {
                return;
            }
            next.home = level.home;
            next.names.keepNone();
            next.params.copyFrom(command.args, 1);
            next.in = inputOf(level);
            next.out = outputOf(level);
        }

        private static Row inputOf(Level level) {
            return level.command.takes ? level.command.fileIn : level.in;
        }

        private static Row outputOf(Level level) {
            return level.command.gives ? level.command.fileOut : level.out;
        }

        // -- tools

        private static int toolNamedBy(Fields args) {
            if (args.is(0, "echo")) {
                return ECHO;
            } else if (args.is(0, "true")) {
                return TRUE;
            } else if (args.is(0, "false")) {
                return FALSE;
            } else if (args.is(0, "cat")) {
                return CAT;
            } else if (args.is(0, "wc")) {
                return WC;
            } else if (args.is(0, "test")) {
                return TEST;
            } else if (args.is(0, "set")) {
                return SET;
            } else if (args.is(0, "shift")) {
                return SHIFT;
            } else if (args.is(0, "local")) {
                return LOCAL;
            } else if (args.is(0, "rm")) {
                return RM;
            } else if (args.is(0, "break")) {
                return BREAK;
            } else if (args.is(0, "return")) {
                return RETURN;
            } else if (args.is(0, "exit")) {
                return EXIT;
            }
            return NONE;
        }

        /** Its status. */
        private int use(Level level, int tool) {
            Fields args = level.command.args;
            switch (tool) {
                case ECHO: return echo(args, outputOf(level));
                case TRUE: return 0;
                case FALSE: return 1;
                case CAT: return cat(inputOf(level), outputOf(level));
                case WC: return wc(inputOf(level), outputOf(level));
                case TEST: return args.count == 3 && args.same(1, 2) ? 0 : 1;
                case SET: return set(level, args);
                case SHIFT: return shift(level);
                case LOCAL: return local(level, args);
                case RM: return rm(args);
                case BREAK: return endLoop(level);
                case RETURN: return level.endFunction() ? statusOf(level, args) : 1;
                case EXIT: return statusOf(level, args);
                default: return UNKNOWN;
            }
        }

        private static int echo(Fields args, Row out) {
            for (int field = 1; field < args.count; field++) {
                if (field > 1) {
                    out.add(' ');
                }
                for (int i = 0; i < args.lengthOf(field); i++) {
                    out.add(args.at(field, i));
                }
            }
            out.add('\n');
            return 0;
        }

        private static int cat(Row in, Row out) {
            out.take(in);
            return 0;
        }

        private static int wc(Row in, Row out) {
            out.addNumber(in.length - in.taken);
            out.add('\n');
            in.taken = in.length;
            return 0;
        }

        private static int set(Level level, Fields args) {
            level.params.copyFrom(args, 1);
            return 0;
        }

        private static int shift(Level level) {
            if (level.params.count == 0) {
                return 1;
            }
            level.params.dropFirst();
            return 0;
        }

        private static int local(Level level, Fields args) {
            if (level.kind != Level.AS_FUNCTION) {
                return 1;
            }
            Names names = level.home.names;
            for (int field = 1; field < args.count; field++) {
                int name = args.letterOf(field);
                if (name != NONE) {
                    if (!level.names.isKept(name)) {
                        level.names.copyOne(names, name);
                    }
                    names.forget(name);
                }
            }
            return 0;
        }

        private int rm(Fields args) {
            int status = 0;
            for (int field = 1; field < args.count; field++) {
                args.copyTo(field, wanted);
                int file = args.lengthOf(field) > Files.NAME_MOST ? NONE : files.find(wanted);
                if (file == NONE) {
                    status = 1;
                } else {
                    files.remove(file);
                }
            }
            return status;
        }

        private static int endLoop(Level level) {
            if (level.loops == 0) {
                return 1;
            }
            level.endLoop();
            return 0;
        }

        /** The status that return and exit give. */
        private static int statusOf(Level level, Fields args) {
            return args.isNumber(1) ? Math.floorMod(args.numberOf(1), 256) : level.home.status;
        }

        // -- words

        private void wordStep(Level level, int op, int arg) {
            Command command = level.command;
            boolean quoted = (arg & 1) == 1;
            switch (op) {
                case OP_CHAR:
                    command.put(arg, false);
                    break;
                case OP_QUOTED:
                    command.put(arg, true);
                    break;
                case OP_MARK:
                    command.mark();
                    break;
                case OP_NAME:
                    putName(command, level.home.names, arg >> 1, quoted);
                    break;
                case OP_PARAMETER:
                    putField(command, level.params, arg >> 1, quoted);
                    break;
                case OP_COUNT:
                    putNumber(command, level.params.count, quoted);
                    break;
                case OP_STATUS:
                    putNumber(command, level.home.status, quoted);
                    break;
                case OP_LENGTH:
                    putNumber(command, level.home.names.lengthOf(arg >> 1), quoted);
                    break;
                case OP_NEXT:
                    level.at = arg;
                    break;
                default:
                    break;
            }
        }

        /** The steps of words behind whose instruction more stands. */
        private void wideStep(Level level, int op, int arg) {
            Command command = level.command;
            Names names = level.home.names;
            boolean quoted = (arg & 1) == 1;
            int end = level.next();
            switch (op) {
                case OP_OR:
                    if (names.lengthOf(arg >> 1) > 0) {
                        putName(command, names, arg >> 1, quoted);
                        level.at = end;
                    }
                    break;
                case OP_AND:
                    level.at = names.lengthOf(arg >> 1) > 0 ? level.at : end;
                    break;
                case OP_SUM:
                    putNumber(command, names.sum(level.code, level.at, end), quoted);
                    level.at = end;
                    break;
                case OP_COMMAND:
                    command.quoting = quoted;
                    enterCaught(op, level, end);
                    break;
                case OP_CHOICES:
                    goToChoice(level, end, command.choose(arg));
                    break;
                default:
                    break;
            }
        }

        /** Follows the links: at each OP_NEXT and its own link stands a choice. */
        private static void goToChoice(Level level, int second, int choice) {
            int next = second;
            for (int i = 0; i < choice && next >= 0; i++) {
                level.at = next + 2;
                next = codeAt(level.code, next + 1);
            }
        }

        private static void putName(Command command, Names names, int name, boolean quoted) {
            for (int i = 0; i < names.lengthOf(name); i++) {
                command.put(names.at(name, i), quoted);
            }
        }

        private static void putField(Command command, Fields params, int field, boolean quoted) {
            for (int i = 0; field < params.count && i < params.lengthOf(field); i++) {
                command.put(params.at(field, i), quoted);
            }
        }

        private void putNumber(Command command, int number, boolean quoted) {
            digits.empty();
            digits.addNumber(number);
            command.putRow(digits, digits.length, quoted);
        }
    }

    /**
     * Expands a row of words another way: the text itself is rewritten, char by char. First each
     * char gets its mark, then choices are written out, then each $ thing is put in place.
     */
    private static final class Rewriter {
        /** A mark of a char that a $ thing gave: no sign any more. */
        private static final int GIVEN = 1024;
        /** A mark of a sign that stands in quotes: what it gives is quoted. */
        private static final int IN_QUOTES = 2048;
        private static final int WORDS_BY_ONE = 8;
        private static final int LINE_MOST = 512;

        final Fields fields;
        private final int[] marked;
        private int markedLength;
        private final int[] outer;
        private final int[][] words;
        private final int[][] others;
        private final int[] lengths;
        private final int[] otherLengths;
        private int wordCount;
        private int otherCount;
        private final int[] line;
        private int lineLength;
        private final Row given;
        private int left;
        private final Level shell;
        private final Files files;

        Rewriter(Level shell, Files files) {
            this.shell = shell;
            this.files = files;
            fields = new Fields();
            marked = new int[TEXT_MOST * 2];
            outer = new int[TEXT_MOST];
            words = new int[WORDS_BY_ONE][TEXT_MOST * 2];
            others = new int[WORDS_BY_ONE][TEXT_MOST * 2];
            lengths = new int[WORDS_BY_ONE];
            otherLengths = new int[WORDS_BY_ONE];
            line = new int[LINE_MOST];
            given = new Row(TEXT_MOST);
        }

        /** Rewrites a text that is a row of words into its fields. */
        void rewrite(Row text) {
            left = TEXT_MOST;
            fields.empty();
            markAll(text);
            int from = 0;
            for (int i = 0; i <= markedLength; i++) {
                if (i == markedLength || isSign(marked, i, ' ')) {
                    rewriteWord(from, i);
                    from = i + 1;
                }
            }
        }

        private void rewriteWord(int from, int to) {
            if (from >= to) {
                return;
            }
            wordCount = 1;
            lengths[0] = to - from;
            System.arraycopy(marked, from, words[0], 0, to - from);
            writeChoicesOut();
            for (int i = 0; i < wordCount && i < WORDS_BY_ONE; i++) {
                lineLength = lengths[i];
                System.arraycopy(words[i], 0, line, 0, lineLength);
                replaceThings();
                cutLine();
            }
        }

        /** Is it this char, as a sign: neither quoted nor given? */
        private static boolean isSign(int[] items, int place, int c) {
            return place >= 0 && place < items.length && (items[place] & ~IN_QUOTES) == c;
        }

        // -- marks

        private void mark(int item) {
            if (markedLength < marked.length) {
                marked[markedLength] = item;
                markedLength++;
            }
        }

        private void markAll(Row text) {
            markedLength = 0;
            int at = 0;
            int depth = 0;
            boolean quotes = false;
            boolean deep = false;
            for (int step = 0; step < TEXT_MOST && at < text.length; step++) {
                int c = text.at(at);
                if (c == '$') {
                    boolean opens = isDefault(text, at);
                    int end = endOfHead(text, at);
                    markHead(text, at, end, quotes || deep ? IN_QUOTES : 0);
                    at = end;
                    if (opens && depth < outer.length) {
                        outer[depth] = (quotes ? 1 : 0) + (deep ? 2 : 0);
                        depth++;
                        deep = quotes || deep;
                        quotes = false;
                    }
                } else if (c == '}' && !quotes && depth > 0) {
                    depth--;
                    quotes = (outer[depth] & 1) != 0;
                    deep = (outer[depth] & 2) != 0;
                    mark(c);
                    at++;
                } else if (c == '{' && !quotes && depth < outer.length) {
                    outer[depth] = 0;
                    depth++;
                    mark(c);
                    at++;
                } else if (c == '"') {
                    quotes = !quotes;
                    mark(MARK);
                    at++;
                } else {
                    at = markChar(text, at, quotes, deep);
                }
            }
        }

        /** Marks what no sign of more begins; where it ends. */
        private int markChar(Row text, int at, boolean quotes, boolean deep) {
            int c = text.at(at);
            int next = text.at(at + 1);
            if (c == '\\' && (!quotes || next == '"' || next == '\\' || next == '$')) {
                mark(MARK);
                mark(next | QUOTED);
                return at + 2;
            }
            if (c == '\'' && !quotes) {
                mark(MARK);
                int end = at + 1;
                while (end < text.length && text.at(end) != '\'') {
                    mark(text.at(end) | QUOTED);
                    end++;
                }
                return end + 1;
            }
            mark(quotes || deep ? c | QUOTED : c);
            return at + 1;
        }

        private static boolean isDefault(Row text, int at) {
            return text.at(at + 1) == '{' && text.at(at + 3) == ':';
        }

        private static boolean isSum(Row text, int at) {
            return text.at(at + 1) == '(';
        }

        /** Where a $ thing ends, or its word begins. */
        private static int endOfHead(Row text, int at) {
            if (isDefault(text, at)) {
                return at + 5;
            }
            int closes = isSum(text, at) ? ')' : '}';
            if (closes == '}' && text.at(at + 1) != '{') {
                return at + 2;
            }
            int end = at + 1;
            while (end < text.length && text.at(end) != closes) {
                end++;
            }
            return closes == ')' ? end + 2 : end + 1;
        }

        /** The chars of a sum are no signs, whatever they are. */
        private void markHead(Row text, int from, int to, int mark) {
            boolean sum = isSum(text, from);
            for (int i = from; i < to; i++) {
                mark(sum && i > from + 2 && i < to - 2 ? text.at(i) | QUOTED : text.at(i) | mark);
            }
        }

        // -- choices

        private void writeChoicesOut() {
            int word = 0;
            for (int step = 0; step < 1000 && word < wordCount && word < WORDS_BY_ONE; step++) {
                int open = firstChoices(words[word], lengths[word]);
                if (open == NONE) {
                    word++;
                } else {
                    writeOut(word, open);
                }
            }
        }

        private static int firstChoices(int[] items, int length) {
            for (int i = 0; i < length; i++) {
                if (isSign(items, i, '{') && !isSign(items, i - 1, '$')) {
                    return i;
                }
            }
            return NONE;
        }

        /** Puts a word for each choice in the place of the word; the ninth and more are gone. */
        private void writeOut(int word, int open) {
            otherCount = 0;
            for (int i = 0; i < word; i++) {
                addOther(words[i], lengths[i]);
            }
            int[] items = words[word];
            int length = lengths[word];
            int close = endOfBraces(items, open, length);
            int from = open + 1;
            int depth = 0;
            for (int i = open + 1; i <= close && i < length; i++) {
                if (i == close || depth == 0 && isSign(items, i, ',')) {
                    addChoice(items, length, open, from, i, close);
                    from = i + 1;
                } else if (isSign(items, i, '{')) {
                    depth++;
                } else if (isSign(items, i, '}')) {
                    depth--;
                }
            }
            for (int i = word + 1; i < wordCount && i < WORDS_BY_ONE; i++) {
                addOther(words[i], lengths[i]);
            }
            takeOthers();
        }

        private static int endOfBraces(int[] items, int open, int length) {
            int depth = 0;
            for (int i = open; i < length; i++) {
                if (isSign(items, i, '{')) {
                    depth++;
                } else if (isSign(items, i, '}')) {
                    depth--;
                    if (depth == 0) {
                        return i;
                    }
                }
            }
            return length - 1;
        }

        private void addOther(int[] items, int length) {
            if (otherCount < WORDS_BY_ONE) {
                System.arraycopy(items, 0, others[otherCount], 0, length);
                otherLengths[otherCount] = length;
                otherCount++;
            }
        }

        private void addChoice(int[] items, int length, int open, int from, int to, int close) {
            if (otherCount >= WORDS_BY_ONE) {
                return;
            }
            int[] other = others[otherCount];
            int behind = length - close - 1;
            System.arraycopy(items, 0, other, 0, open);
            System.arraycopy(items, from, other, open, to - from);
            System.arraycopy(items, close + 1, other, open + to - from, behind);
            otherLengths[otherCount] = open + to - from + behind;
            otherCount++;
        }

        private void takeOthers() {
            wordCount = otherCount;
            for (int i = 0; i < wordCount && i < WORDS_BY_ONE; i++) {
                System.arraycopy(others[i], 0, words[i], 0, otherLengths[i]);
                lengths[i] = otherLengths[i];
            }
        }

        // -- $ things

        private void replaceThings() {
            int at = 0;
            for (int step = 0; step < 100000 && at < lineLength && at < LINE_MOST; step++) {
                if (isSign(line, at, '$')) {
                    replaceThing(at);
                } else if (line[at] == MARK) {
                    at++;
                } else if (left > 0) {
                    left--;
                    at++;
                } else {
                    replace(at, at + 1, 0);
                }
            }
        }

        private void replaceThing(int at) {
            int marks = GIVEN | ((item(at) & IN_QUOTES) != 0 ? QUOTED : 0);
            given.empty();
            int sign = charOf(at + 1);
            int end = at + 2;
            if (sign == '{') {
                end = endOfBraces(line, at + 1, lineLength) + 1;
                if (charOf(at + 3) == ':') {
                    boolean has = shell.names.lengthOf(charOf(at + 2) - 'a') > 0;
                    boolean or = charOf(at + 4) == '-';
                    if (has != or) {
                        replace(end - 1, end, 0);
                        replace(at, at + 5, 0);
                        return;
                    }
                    if (has) {
                        giveName(charOf(at + 2) - 'a');
                    }
                } else {
                    giveBraces(at);
                }
            } else if (sign == '(') {
                end = endOfSum(at) + 2;
                given.addNumber(shell.names.sum(line, at + 3, end - 2));
            } else {
                giveSimple(sign);
            }
            replace(at, end, marks);
        }

        private int item(int place) {
            return place >= 0 && place < lineLength && place < LINE_MOST ? line[place] : 0;
        }

        private int charOf(int place) {
            return item(place) & CHAR_MASK;
        }

        private int endOfSum(int at) {
            int end = at;
            while (end < lineLength && !isSign(line, end, ')')) {
                end++;
            }
            return end;
        }

        private void giveBraces(int at) {
            if (charOf(at + 2) == '#') {
                given.addNumber(shell.names.lengthOf(charOf(at + 3) - 'a'));
            } else {
                giveName(charOf(at + 2) - 'a');
            }
        }

        private void giveSimple(int sign) {
            if (sign == '#') {
                given.addNumber(shell.params.count);
            } else if (sign == '?') {
                given.addNumber(shell.status);
            } else if (isLetter(sign)) {
                giveName(sign - 'a');
            } else if (sign - '1' < shell.params.count) {
                for (int i = 0; i < shell.params.lengthOf(sign - '1'); i++) {
                    given.add(shell.params.at(sign - '1', i));
                }
            }
        }

        private void giveName(int name) {
            for (int i = 0; i < shell.names.lengthOf(name); i++) {
                given.add(shell.names.at(name, i));
            }
        }

        /** Puts what is given in the place of some items of the line. */
        private void replace(int from, int to, int marks) {
            int count = marks == 0 ? 0 : Math.min(given.length, left);
            int behind = lineLength - to;
            if (from < 0 || to < from || behind < 0 || from + count + behind > LINE_MOST) {
                lineLength = Math.max(0, Math.min(from, lineLength));
                return;
            }
            System.arraycopy(line, to, line, from + count, behind);
            for (int i = 0; i < count; i++) {
                line[from + i] = given.at(i) | marks;
            }
            lineLength = from + count + behind;
        }

        // -- fields

        private void cutLine() {
            int from = 0;
            for (int i = 0; i <= lineLength; i++) {
                boolean gap = item(i) == (' ' | GIVEN) || item(i) == ('\n' | GIVEN);
                if (i == lineLength || gap) {
                    if (i > from) {
                        fitFiles(from, i);
                    }
                    from = i + 1;
                }
            }
        }

        private void fitFiles(int from, int to) {
            boolean some = false;
            for (int file = 0; isPattern(from, to) && file < files.count; file++) {
                if (fits(files.names[file], from, to)) {
                    some = true;
                    fields.addRow(files.names[file]);
                }
            }
            if (!some && fields.begin()) {
                for (int i = from; i < to; i++) {
                    if (item(i) != MARK) {
                        fields.add(charOf(i));
                    }
                }
            }
        }

        private boolean isUnquoted(int place, int c) {
            return (item(place) & ~GIVEN) == c;
        }

        private boolean isPattern(int from, int to) {
            for (int i = from; i < to; i++) {
                if (isUnquoted(i, '*') || isUnquoted(i, '?')) {
                    return true;
                }
            }
            return false;
        }

        /** Bit k tells whether the first k chars of the name fit what was read of the pattern. */
        private boolean fits(Row name, int from, int to) {
            int reached = 1;
            int all = (1 << name.length + 1) - 1;
            for (int i = from; i < to; i++) {
                if (isUnquoted(i, '*')) {
                    for (int k = 0; k < name.length; k++) {
                        reached |= reached << 1 & all;
                    }
                } else if (item(i) != MARK) {
                    int next = 0;
                    for (int k = 0; k < name.length; k++) {
                        boolean same = isUnquoted(i, '?') || name.at(k) == charOf(i);
                        if (same && (reached >> k & 1) == 1) {
                            next |= 1 << k + 1;
                        }
                    }
                    reached = next;
                }
            }
            return (reached >> name.length & 1) == 1;
        }
    }
}
