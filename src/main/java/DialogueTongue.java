import java.util.NoSuchElementException;

/**
 * A command language in which all is text, and a peer that answers by a table of rules.
 *
 * A run keeps a stack of tasks of its own instead of calling itself, because scripts, brackets and
 * expressions may stand within one another deeper than calls may; and it makes no object for a command,
 * because all that the runs of an object make is counted together.
 */
public final class DialogueTongue {
    public static final int NONE = -1;

    private static final int MOST_TAPE = 4096;
    private static final int MOST_FUEL = 50000;
    private static final int LONGEST = 1024;
    private static final int MOST_WORDS = 128;
    private static final int MOST_WORD_BYTES = 2048;
    private static final int MOST_NESTED = 32;
    private static final int MOST_OPEN = 8;
    private static final int MOST_VARIABLES = 128;
    private static final int MOST_PROCEDURES = 32;
    private static final int MOST_RULES = 64;
    private static final int MOST_RULE_TEXT = 200;
    private static final int MOST_STATES = 32;
    private static final int MOST_DELAY = 1000;
    private static final int MOST_ANSWERS = 64;
    private static final int MOST_TICKS = 1000000;
    private static final int USUAL_TICKS = 10;
    private static final int MOST_TOLD = 32768;
    /** Far above what 32 scripts within one another can hold in words that are not yet done. */
    private static final int MOST_BYTES = 2300000;
    private static final int FIRST_BYTES = 16384;
    /** More than one turn of a task can add. */
    private static final int TURN_BYTES = 8192;
    private static final int FIRST_CELLS = 512;
    private static final int MOST_CELLS = 1000000;
    /** Far above what the fuel of a run allows. */
    private static final int MOST_TURNS = 2000000000;
    /** Far above what any loop over a text, or any command's words, can need. */
    private static final int MANY = 1000000;
    private static final long LOWEST = 0x8000000000000000L;
    private static final long HIGHEST = 0x7fffffffffffffffL;
    private static final String HEXADECIMAL = "0123456789abcdefABCDEF";
    /** The letters behind a backslash that stand for other bytes, and those bytes. */
    private static final String ESCAPED = "abtnvfr";
    private static final String ESCAPES = "\7\b\t\n\13\f\r";

    private static final int FINE = 0;
    private static final int ERROR = 1;
    private static final int RETURN = 2;
    private static final int BREAK = 3;
    private static final int CONTINUE = 4;
    private static final int SPENT = 5;

    private static final int SENT = 1;
    private static final int RECEIVED = 2;
    private static final int PUT_OUT = 3;

    private static final String TOO_LONG = "too long";
    private static final String TOO_DEEP = "too deep";
    private static final String BAD_LIST = "bad list";
    private static final String NO_PEER = "no peer";
    private static final String NO_VARIABLE = "no such variable: ";
    private static final String NO_LEVEL = "no such level: ";
    private static final String NO_INTEGER = "not an integer: ";
    private static final String WRONG_NUMBER = "wrong number of words: ";
    private static final String BAD_OPTION = "bad option: ";
    private static final String STRAY_BREAK = "break outside of a loop";
    private static final String STRAY_CONTINUE = "continue outside of a loop";

    /* The kinds of tasks. */
    private static final int SCRIPT = 0;
    private static final int COMMAND = 1;
    private static final int PHRASE = 2;
    private static final int SUM = 3;
    private static final int PLACES = 4;
    private static final int LISTS = 5;
    private static final int TEXTS = 6;
    private static final int TALK = 7;
    private static final int FLOW = 8;
    private static final int CALL = 9;
    private static final int CALLED = 10;
    private static final int PASS = 11;
    private static final int CHOICE = 12;
    private static final int LOOP = 13;
    private static final int ROUNDS = 14;
    private static final int CAUGHT = 15;
    private static final int LIFTED = 16;
    private static final int WAIT = 17;
    /* What is no task, but the family of a word behind string or info. */
    private static final int STRING_OPTION = 20;
    private static final int INFO_OPTION = 21;

    /* The cells of a task: the same for all kinds, then those of one kind or another. */
    private static final int KIND = 0;
    private static final int BELOW = 1;
    private static final int STATE = 2;
    private static final int AT = 3;
    private static final int END = 4;
    private static final int MARK = 5;
    private static final int INNER = 6;
    private static final int COUNT = 7;
    private static final int OVERLONG = 8;
    private static final int MODE = 9;
    private static final int TEST = 9;
    private static final int NEXT = 10;
    private static final int BODY = 11;
    private static final int FRAME = 9;
    private static final int CELLS = 12;

    /* What a phrase is read up to. */
    private static final int BARE = 0;
    private static final int QUOTED = 1;
    private static final int INDEXED = 2;

    /* The states of tasks; a new one is in state NEW. */
    private static final int NEW = 0;
    private static final int GOING = 1;
    private static final int WANTING = 2;
    private static final int HAVING = 3;
    private static final int TESTED = 4;
    private static final int DONE = 5;
    private static final int STEPPED = 6;

    private final Text tape;
    private final Peer peer;
    private final Machine machine;
    private final Sums sums;
    private final Lists lists;
    private final Texts texts;
    private final Flow flow;

    public DialogueTongue() {
        Peer other = new Peer();
        Text bytes = new Text(FIRST_BYTES);
        Machine made = new Machine(bytes, new Reader(bytes));
        tape = new Text(MOST_TAPE);
        peer = other;
        machine = made;
        sums = new Sums(made);
        lists = new Lists(made);
        texts = new Texts(made);
        flow = new Flow(made, other);
    }

    public boolean feed(int a, int b, int c, int d, int e) {
        if (tape.to + 20 > MOST_TAPE) {
            return false;
        }
        addToTape(a);
        addToTape(b);
        addToTape(c);
        addToTape(d);
        addToTape(e);
        return true;
    }

    private void addToTape(int number) {
        for (int shift = 24; shift >= 0; shift -= 8) {
            tape.add((char) ((number >>> shift) & 255));
        }
    }

    public boolean end(int n) {
        if (n < 0 || n > tape.to) {
            return false;
        }
        tape.shorten(n);
        return true;
    }

    public int rule(int state, int delay, int next) {
        int number = peer.learn(tape, state, delay, next);
        tape.wipe();
        return number;
    }

    public void clear() {
        peer.count = 0;
    }

    public int run(int fuel) {
        if (fuel < 0 || fuel > MOST_FUEL) {
            tape.wipe();
            return NONE;
        }
        peer.begin();
        machine.begin(tape, fuel);
        tape.wipe();
        for (int turn = 0; turn < MOST_TURNS && machine.base >= 0 && !machine.spent; turn++) {
            machine.bytes.reserve(TURN_BYTES);
            switch (machine.cells[machine.base + KIND]) {
                case SCRIPT: machine.scriptTurn(); break;
                case COMMAND: machine.commandTurn(); break;
                case PHRASE: machine.phraseTurn(); break;
                case SUM: sums.turn(); break;
                case LISTS: lists.perform(); break;
                case TEXTS: texts.perform(); break;
                case PLACES: flow.performPlaces(); break;
                case TALK: flow.performTalk(); break;
                case FLOW: flow.perform(); break;
                case WAIT: flow.expect(); break;
                case CALL: flow.call(); break;
                case CALLED: flow.called(); break;
                case CHOICE: flow.choose(); break;
                case LOOP: flow.loop(); break;
                case ROUNDS: flow.rounds(); break;
                case CAUGHT: flow.caught(); break;
                case LIFTED: flow.lifted(); break;
                default: machine.close(); break;
            }
        }
        return machine.conclude();
    }

    public int out() {
        return machine.result.to;
    }

    public int outAt(int i) throws NoSuchElementException {
        if (i < 0 || i >= machine.result.to) {
            throw new NoSuchElementException();
        }
        return machine.result.row[i];
    }

    public int told() {
        return peer.told.to;
    }

    public int toldAt(int i) throws NoSuchElementException {
        if (i < 0 || i >= peer.told.to) {
            throw new NoSuchElementException();
        }
        return peer.told.row[i];
    }

    public int fuel() {
        return machine.left;
    }

    public long clock() {
        return peer.now;
    }

    public int rules() {
        return peer.count;
    }

    public int live() {
        return machine.names.count + machine.names.procedureCount + machine.top + machine.bytes.to;
    }

    /** A stretch of a row of bytes. */
    private static class View {
        char[] row;
        int from;
        int to;
        /** What isInteger and isIndex have read. */
        long number;

        View(char[] row) {
            this.row = row;
        }

        final void look(char[] at, int first, int behind) {
            row = at;
            from = first;
            to = behind;
        }

        final int length() {
            return to - from;
        }

        final boolean is(String word) {
            if (to - from != word.length()) {
                return false;
            }
            for (int i = 0; i < word.length(); i++) {
                if (row[from + i] != word.charAt(i)) {
                    return false;
                }
            }
            return true;
        }

        final boolean same(View other) {
            if (to - from != other.to - other.from) {
                return false;
            }
            for (int i = from; i < to; i++) {
                if (row[i] != other.row[other.from + i - from]) {
                    return false;
                }
            }
            return true;
        }

        /** Whether the other text stands at this offset. */
        final boolean holds(View other, int offset) {
            int size = other.to - other.from;
            if (from + offset + size > to) {
                return false;
            }
            for (int i = 0; i < size; i++) {
                if (row[from + offset + i] != other.row[other.from + i]) {
                    return false;
                }
            }
            return true;
        }

        final boolean has(char c) {
            for (int i = from; i < to; i++) {
                if (row[i] == c) {
                    return true;
                }
            }
            return false;
        }

        final int compare(View other) {
            int common = Math.min(length(), other.length());
            for (int i = 0; i < common; i++) {
                int order = row[from + i] - other.row[other.from + i];
                if (order != 0) {
                    return order < 0 ? -1 : 1;
                }
            }
            return Integer.compare(length(), other.length());
        }

        final boolean isInteger() {
            boolean signed = from < to && (row[from] == '-' || row[from] == '+');
            int first = signed ? from + 1 : from;
            boolean minus = signed && row[from] == '-';
            return isHexadecimal(first, minus) || isDecimal(first, minus);
        }

        private boolean isHexadecimal(int first, boolean minus) {
            int size = to - first - 2;
            if (size < 1 || size > 16 || row[first] != '0' || row[first + 1] != 'x') {
                return false;
            }
            long value = 0;
            for (int i = first + 2; i < to; i++) {
                int digit = HEXADECIMAL.indexOf(row[i]);
                if (digit < 0) {
                    return false;
                }
                value = value << 4 | (digit < 16 ? digit : digit - 6);
            }
            number = minus ? -value : value;
            return true;
        }

        /** Counts downwards, because the lowest number has no counterpart above 0. */
        private boolean isDecimal(int at, boolean minus) {
            if (at >= to) {
                return false;
            }
            long value = 0;
            for (int i = at; i < to; i++) {
                int digit = row[i] - '0';
                if (digit < 0 || digit > 9 || value < LOWEST / 10) {
                    return false;
                }
                value *= 10;
                if (value < LOWEST + digit) {
                    return false;
                }
                value -= digit;
            }
            if (!minus && value == LOWEST) {
                return false;
            }
            number = minus ? value : -value;
            return true;
        }

        /** Whether this is a place among so many. */
        final boolean isIndex(int count) {
            if (isInteger()) {
                return true;
            }
            if (!countsFromEnd()) {
                return false;
            }
            long back = 0;
            if (length() > 3) {
                if (row[from + 3] != '-' || !isHexadecimal(from + 4, false) && !isDecimal(from + 4, false)) {
                    return false;
                }
                back = number;
            }
            number = count - 1 - back;
            if (back < 0 && number < 0) {
                number = HIGHEST;
            }
            return true;
        }

        final boolean countsFromEnd() {
            return length() >= 3 && row[from] == 'e' && row[from + 1] == 'n' && row[from + 2] == 'd';
        }

        /** The number that was read, or the nearest one from low to high. */
        final int within(int low, int high) {
            return (int) Math.max(low, Math.min(high, number));
        }

        /** What a backslash and what is behind it stand for: 256 times the place behind them, and the byte. */
        static int escape(char[] row, int at, int end) {
            int next = at + 1;
            if (next >= end) {
                return next << 8 | '\\';
            }
            char c = row[next];
            int bits = c == 'x' ? 4 : 3;
            int first = c == 'x' ? next + 1 : next;
            int digits = first;
            int value = 0;
            while (digits < end && digits < next + 3) {
                int digit = HEXADECIMAL.indexOf(row[digits]);
                if (digit < 0 || bits == 3 && digit > 7) {
                    break;
                }
                value = value << bits | (digit < 16 ? digit : digit - 6);
                digits++;
            }
            if (digits > first) {
                return digits << 8 | (value & 255);
            }
            int letter = ESCAPED.indexOf(c);
            return next + 1 << 8 | (letter < 0 ? c : ESCAPES.charAt(letter));
        }

        /** Whether the whole text fits a pattern; pieces of it, parted by stars, have a fixed length. */
        final boolean fits(View pattern) {
            int piece = pattern.from;
            int stop = pattern.pieceEnd(piece);
            int at = fit(pattern, piece, stop, from, from);
            if (stop >= pattern.to) {
                return at == to;
            }
            for (int turn = 0; turn < MANY && at >= 0 && stop < pattern.to; turn++) {
                piece = stop + 1;
                stop = pattern.pieceEnd(piece);
                if (stop < pattern.to) {
                    at = fit(pattern, piece, stop, at, to);
                }
            }
            int start = to - pattern.pieceLength(piece);
            return at >= 0 && start >= at && fit(pattern, piece, stop, start, start) >= 0;
        }

        /** The length of the shortest beginning that fits the pattern with a star ahead; NONE without one. */
        final int reach(View pattern) {
            int at = from;
            int piece = pattern.from;
            for (int turn = 0; turn < MANY && at >= 0 && piece <= pattern.to; turn++) {
                int stop = pattern.pieceEnd(piece);
                at = fit(pattern, piece, stop, at, to);
                piece = stop + 1;
            }
            return at < 0 ? NONE : at - from;
        }

        /** Behind the first place of those from one to another where a piece fits, or NONE. */
        private int fit(View pattern, int piece, int stop, int first, int last) {
            for (int i = first; i <= last; i++) {
                int at = i;
                int token = piece;
                for (int turn = 0; turn < MANY && token < stop && at < to && pattern.tokenFits(token, row[at]); turn++) {
                    token = pattern.tokenEnd(token);
                    at++;
                }
                if (token >= stop) {
                    return at;
                }
            }
            return NONE;
        }

        private int pieceEnd(int piece) {
            int at = piece;
            for (int turn = 0; turn < MANY && at < to && row[at] != '*'; turn++) {
                at = tokenEnd(at);
            }
            return at;
        }

        private int pieceLength(int piece) {
            int size = 0;
            for (int at = piece; size < MANY && at < to && row[at] != '*'; size++) {
                at = tokenEnd(at);
            }
            return size;
        }

        private int tokenEnd(int token) {
            int at = token;
            boolean inSet = row[token] == '[';
            if (inSet) {
                at++;
                while (at < to && row[at] != ']') {
                    at += row[at] == '\\' ? 2 : 1;
                }
            } else if (row[at] == '\\') {
                at++;
            }
            return Math.min(at + 1, to);
        }

        private boolean tokenFits(int token, char c) {
            if (row[token] != '[') {
                boolean escaped = row[token] == '\\' && token + 1 < to;
                return escaped ? row[token + 1] == c : row[token] == '?' || row[token] == c;
            }
            int at = token + 1;
            while (at < to && row[at] != ']') {
                at += row[at] == '\\' && at + 1 < to ? 1 : 0;
                char low = row[at];
                char high = low;
                at++;
                if (at + 1 < to && row[at] == '-' && row[at + 1] != ']') {
                    at += row[at + 1] == '\\' && at + 2 < to ? 2 : 1;
                    high = row[at];
                    at++;
                }
                if (c >= low && c <= high) {
                    return true;
                }
            }
            return false;
        }

        final boolean isPlainElement() {
            if (from == to || row[from] == '#') {
                return false;
            }
            for (int i = from; i < to; i++) {
                if (needsBackslash(row[i])) {
                    return false;
                }
            }
            return true;
        }

        final boolean isFitForBraces() {
            int open = 0;
            for (int i = from; i < to; i++) {
                if (row[i] == '{') {
                    open++;
                } else if (row[i] == '}') {
                    open--;
                }
                if (open < 0 || row[i] == '\\') {
                    return false;
                }
            }
            return open == 0;
        }

        static boolean needsBackslash(char c) {
            switch (c) {
                case ' ':
                case '"':
                case '$':
                case ';':
                case '[':
                case '\\':
                case ']':
                case '{':
                case '}':
                    return true;
                default:
                    return c >= 9 && c <= 13;
            }
        }
    }

    /** A text with a row of its own; it tells when something found no place there. */
    private static final class Text extends View {
        boolean full;

        Text(int most) {
            super(new char[most]);
        }

        void wipe() {
            to = 0;
            full = false;
        }

        void shorten(int size) {
            if (size >= 0 && size < to) {
                to = size;
            }
        }

        /** Makes room for so many bytes more. */
        void reserve(int room) {
            if (row.length - to < room && row.length < MOST_BYTES) {
                char[] wide = new char[Math.min(MOST_BYTES, Math.max(to + room, row.length * 2))];
                System.arraycopy(row, 0, wide, 0, to);
                row = wide;
            }
        }

        void add(char c) {
            if (to >= row.length) {
                full = true;
                return;
            }
            row[to] = c;
            to++;
        }

        void add(View piece) {
            int size = piece.to - piece.from;
            if (size > row.length - to) {
                full = true;
                size = row.length - to;
            }
            System.arraycopy(piece.row, piece.from, row, to, size);
            to += size;
        }

        void add(String word) {
            for (int i = 0; i < word.length(); i++) {
                add(word.charAt(i));
            }
        }

        void become(View other) {
            to = 0;
            full = false;
            add(other);
        }

        void addNumber(long n) {
            if (n < 0) {
                add('-');
            }
            int first = to;
            long rest = n;
            for (int i = 0; i < 20 && (i == 0 || rest != 0); i++) {
                add((char) ('0' + Math.abs((int) (rest % 10))));
                rest /= 10;
            }
            turnRound(first);
        }

        /** The digits of all 64 bits, so many bits for each. */
        void addBits(long n, int bits, boolean great) {
            int first = to;
            long rest = n;
            for (int i = 0; i < 64 && (i == 0 || rest != 0); i++) {
                int digit = (int) (rest & ((1 << bits) - 1));
                add((char) (digit < 10 ? '0' + digit : (great ? 'A' : 'a') + digit - 10));
                rest >>>= bits;
            }
            turnRound(first);
        }

        void turnRound(int first) {
            int low = first;
            for (int high = to - 1; high > low; high--) {
                char c = row[low];
                row[low] = row[high];
                row[high] = c;
                low++;
            }
        }

        void dropFirst(int size) {
            if (size > 0 && size <= to) {
                System.arraycopy(row, size, row, 0, to - size);
                to -= size;
            }
        }

        /** An element more of the list that this text is. */
        void addElement(View element) {
            if (to > 0) {
                add(' ');
            }
            if (element.isPlainElement()) {
                add(element);
            } else if (element.isFitForBraces()) {
                add('{');
                add(element);
                add('}');
            } else {
                addWithBackslashes(element);
            }
        }

        private void addWithBackslashes(View element) {
            for (int i = element.from; i < element.to; i++) {
                char c = element.row[i];
                if (needsBackslash(c) || i == element.from && c == '#') {
                    add('\\');
                }
                int escape = c >= 9 && c <= 13 ? ESCAPES.indexOf(c) : NONE;
                add(escape < 0 ? c : ESCAPED.charAt(escape));
            }
        }
    }

    /** The elements of a list that was read. */
    private static final class Elements {
        final Text bytes = new Text(LONGEST);
        private final int[] ends = new int[LONGEST];
        int count;

        boolean read(View list) {
            bytes.wipe();
            count = 0;
            int at = skip(list, list.from);
            while (at >= 0 && at < list.to && count < ends.length) {
                at = take(list, at);
                ends[count] = bytes.to;
                count++;
                if (at >= 0) {
                    at = skip(list, at);
                }
            }
            return at >= list.to;
        }

        void pick(int i, View view) {
            if (i >= 0 && i < count) {
                view.look(bytes.row, i == 0 ? 0 : ends[i - 1], ends[i]);
            } else {
                view.look(bytes.row, 0, 0);
            }
        }

        static int skip(View list, int from) {
            int at = from;
            while (at < list.to && parts(list.row[at])) {
                at++;
            }
            return at;
        }

        private static boolean parts(char c) {
            return c == ' ' || c >= 9 && c <= 13;
        }

        private static boolean closes(char c, boolean quoted) {
            return quoted ? c == '"' : parts(c);
        }

        /** Adds the element that begins here; the place behind it, or NONE if it can't be read. */
        int take(View list, int from) {
            char c = list.row[from];
            boolean quoted = c == '"';
            int at = quoted ? from + 1 : from;
            if (c == '{') {
                at = takeBraces(list, from);
            } else {
                for (int turn = 0; turn < MANY && at < list.to && !closes(list.row[at], quoted); turn++) {
                    at = takeByte(list, at);
                }
                if (quoted) {
                    at = at < list.to ? at + 1 : NONE;
                }
            }
            return at < 0 || at >= list.to || parts(list.row[at]) ? at : NONE;
        }

        private int takeBraces(View list, int at) {
            int open = 1;
            for (int i = at + 1; i < list.to; i++) {
                char c = list.row[i];
                if (c == '{') {
                    open++;
                } else if (c == '}') {
                    open--;
                }
                if (open == 0) {
                    return i + 1;
                }
                bytes.add(c);
                if (c == '\\' && i + 1 < list.to) {
                    i++;
                    bytes.add(list.row[i]);
                }
            }
            return NONE;
        }

        private int takeByte(View list, int from) {
            if (list.row[from] != '\\') {
                bytes.add(list.row[from]);
                return from + 1;
            }
            if (from + 1 >= list.to || list.row[from + 1] != '\n') {
                int escaped = View.escape(list.row, from, list.to);
                bytes.add((char) (escaped & 255));
                return escaped >> 8;
            }
            bytes.add(' ');
            int at = from + 2;
            while (at < list.to && (list.row[at] == ' ' || list.row[at] == '\t')) {
                at++;
            }
            return at;
        }
    }

    /**
     * Finds the ends of commands, words and expressions; each answer is the place behind, or NONE with the
     * problem told. It calls itself for what stands within brackets, indexes and parentheses, at most 8 deep.
     */
    private static final class Reader {
        private final Text text;
        private final View number;
        int end;
        String problem = "";
        boolean deep;

        Reader(Text text) {
            this.text = text;
            number = new View(text.row);
        }

        private int refuse(String message) {
            problem = message;
            deep = false;
            return NONE;
        }

        private int refuseDepth() {
            problem = TOO_DEEP;
            deep = true;
            return NONE;
        }

        int blanks(int from) {
            int at = from;
            while (at < end) {
                char c = text.row[at];
                if (c == ' ' || c == '\t') {
                    at++;
                } else if (c == '\\' && at + 1 < end && text.row[at + 1] == '\n') {
                    at += 2;
                } else {
                    break;
                }
            }
            return at;
        }

        /** Behind blanks and newlines, as they may stand in expressions. */
        int gap(int from) {
            int at = blanks(from);
            for (int turn = 0; turn < MANY && at < end && text.row[at] == '\n'; turn++) {
                at = blanks(at + 1);
            }
            return at;
        }

        /** Where the next command begins, behind comments and commands without words. */
        int beginning(int from) {
            int at = blanks(from);
            boolean passes = true;
            for (int turn = 0; turn < MANY && at < end && passes; turn++) {
                char c = text.row[at];
                passes = c == '\n' || c == ';' || c == '#';
                if (passes) {
                    at = blanks(c == '#' ? commentEnd(at) : at + 1);
                }
            }
            return at;
        }

        private int commentEnd(int from) {
            int at = from;
            while (at < end && text.row[at] != '\n') {
                at += text.row[at] == '\\' ? 2 : 1;
            }
            return Math.min(at, end);
        }

        /** Whether a command ends here; inner commands stand in brackets. */
        boolean closes(int at, boolean inner) {
            if (at >= end) {
                return true;
            }
            char c = text.row[at];
            return c == '\n' || c == ';' || inner && c == ']';
        }

        int command(int from, boolean inner, int depth) {
            int at = from;
            for (int turn = 0; turn < MANY && at >= 0 && !closes(at, inner); turn++) {
                at = word(at, inner, depth);
                if (at >= 0) {
                    at = blanks(at);
                }
            }
            return at;
        }

        private int word(int at, boolean inner, int depth) {
            char c = text.row[at];
            if (c == '{') {
                return parted(braces(at), inner, "extra characters after close-brace");
            }
            if (c == '"') {
                return parted(enclosed(at + 1, '"', depth), inner, "extra characters after close-quote");
            }
            int next = at;
            for (int turn = 0; turn < MANY && next >= 0 && !closes(next, inner) && blanks(next) == next; turn++) {
                next = part(next, depth);
            }
            return next;
        }

        private int parted(int at, boolean inner, String message) {
            if (at < 0 || closes(at, inner) || blanks(at) > at) {
                return at;
            }
            return refuse(message);
        }

        /** Behind a substitution, or a byte that stands for itself. */
        private int part(int at, int depth) {
            char c = text.row[at];
            if (c == '$') {
                return dollar(at, depth);
            }
            if (c == '[') {
                return bracket(at, depth);
            }
            return Math.min(end, c == '\\' ? at + 2 : at + 1);
        }

        /** Behind quotes or an index, of which this is the first byte within. */
        private int enclosed(int from, char closer, int depth) {
            int at = from;
            for (int turn = 0; turn < MANY && at >= 0 && at < end && text.row[at] != closer; turn++) {
                at = part(at, depth);
            }
            if (at >= end) {
                return refuse(closer == '"' ? "missing close-quote" : "missing close-parenthesis");
            }
            return at < 0 ? at : at + 1;
        }

        int braces(int from) {
            int open = 0;
            int at = from;
            while (at < end) {
                char c = text.row[at];
                if (c == '{') {
                    open++;
                } else if (c == '}') {
                    open--;
                }
                if (open == 0) {
                    return at + 1;
                }
                at += c == '\\' ? 2 : 1;
            }
            return refuse("missing close-brace");
        }

        private int dollar(int at, int depth) {
            int next = at + 1;
            if (next < end && text.row[next] == '{') {
                int close = closeBrace(next);
                return close < end ? close + 1 : refuse("missing close-brace");
            }
            int stop = nameEnd(next);
            if (stop == next || stop >= end || text.row[stop] != '(') {
                return stop;
            }
            return depth < MOST_OPEN ? enclosed(stop + 1, ')', depth + 1) : refuseDepth();
        }

        int closeBrace(int from) {
            int at = from;
            while (at < end && text.row[at] != '}') {
                at++;
            }
            return at;
        }

        int nameEnd(int from) {
            int at = from;
            while (at < end && isNameByte(text.row[at])) {
                at++;
            }
            return at;
        }

        private static boolean isNameByte(char c) {
            return c >= 'a' && c <= 'z' || c >= 'A' && c <= 'Z' || c >= '0' && c <= '9' || c == '_';
        }

        private int bracket(int from, int depth) {
            if (depth >= MOST_OPEN) {
                return refuseDepth();
            }
            int at = beginning(from + 1);
            for (int turn = 0; turn < MANY && at >= 0 && at < end && text.row[at] != ']'; turn++) {
                at = command(at, true, depth + 1);
                if (at >= 0) {
                    at = beginning(at);
                }
            }
            if (at >= end) {
                return refuse("missing close-bracket");
            }
            return at < 0 ? at : at + 1;
        }

        /** Up to what can't belong to the expression; the depth counts this one, too. */
        int expression(int from, int depth) {
            int at = chain(from, depth, 0);
            if (at < 0 || at >= end || text.row[at] != '?') {
                return at;
            }
            if (depth >= MOST_OPEN) {
                return refuseDepth();
            }
            at = expression(at + 1, depth + 1);
            if (at < 0) {
                return at;
            }
            if (at >= end || text.row[at] != ':') {
                return refuse("");
            }
            return expression(at + 1, depth + 1);
        }

        /** Behind operands and the operators between them that bind more strongly than so. */
        int chain(int from, int depth, int strength) {
            int at = operandAndGap(from, depth);
            int operator = operator(at);
            for (int turn = 0; turn < MANY && at >= 0 && operator != 0 && Sums.strength(operator) > strength; turn++) {
                at = operandAndGap(at + Sums.width(operator), depth);
                operator = operator(at);
            }
            return at;
        }

        private int operandAndGap(int from, int depth) {
            int at = operand(from, depth);
            return at < 0 ? at : gap(at);
        }

        private int operand(int from, int depth) {
            int at = gap(from);
            for (int turn = 0; turn < MANY && at < end && sign(at) != 0; turn++) {
                at = gap(at + 1);
            }
            if (at >= end) {
                return refuse("");
            }
            switch (text.row[at]) {
                case '"':
                    return enclosed(at + 1, '"', depth);
                case '{':
                    return braces(at);
                case '[':
                    return bracket(at, depth);
                case '(':
                    return group(at, 1, depth);
                case '$':
                    int behind = dollar(at, depth);
                    return behind == at + 1 ? refuse("") : behind;
                default:
                    return numberOrFunction(at, depth);
            }
        }

        private int numberOrFunction(int at, int depth) {
            int function = function(at);
            if (function != 0) {
                int open = gap(at + 3);
                return group(open, function == Sums.ABS ? 1 : 2, depth);
            }
            int stop = nameEnd(at);
            if (text.row[at] < '0' || text.row[at] > '9') {
                return refuse("");
            }
            number.look(text.row, at, stop);
            return number.isInteger() ? stop : refuse("");
        }

        private int group(int from, int parts, int depth) {
            if (from >= end || text.row[from] != '(') {
                return refuse("");
            }
            if (depth >= MOST_OPEN) {
                return refuseDepth();
            }
            int at = from;
            for (int i = 0; i < parts && at >= 0; i++) {
                at = expression(at + 1, depth + 1);
                if (at >= 0 && (at >= end || text.row[at] != (i + 1 < parts ? ',' : ')'))) {
                    at = refuse("");
                }
            }
            return at < 0 ? at : at + 1;
        }

        int sign(int at) {
            switch (text.row[at]) {
                case '-':
                    return Sums.NEGATIVE;
                case '+':
                    return Sums.POSITIVE;
                case '!':
                    return Sums.NOT;
                case '~':
                    return Sums.INVERSE;
                default:
                    return 0;
            }
        }

        int function(int at) {
            if (nameEnd(at) != at + 3) {
                return 0;
            }
            char a = text.row[at];
            char b = text.row[at + 1];
            char c = text.row[at + 2];
            if (a == 'a' && b == 'b' && c == 's') {
                return Sums.ABS;
            }
            if (a != 'm') {
                return 0;
            }
            if (b == 'i' && c == 'n') {
                return Sums.MIN;
            }
            return b == 'a' && c == 'x' ? Sums.MAX : 0;
        }

        /** The operator between operands that stands here, or 0. */
        int operator(int at) {
            if (at < 0 || at >= end) {
                return 0;
            }
            char c = text.row[at];
            char d = at + 1 < end ? text.row[at + 1] : 0;
            switch (c) {
                case '|':
                    return d == '|' ? Sums.OR : Sums.BIT_OR;
                case '&':
                    return d == '&' ? Sums.AND : Sums.BIT_AND;
                case '^':
                    return Sums.BIT_XOR;
                case '=':
                    return d == '=' ? Sums.EQUAL : 0;
                case '!':
                    return d == '=' ? Sums.UNEQUAL : 0;
                case 'e':
                    return d == 'q' ? Sums.SAME : 0;
                case 'n':
                    return d == 'e' ? Sums.OTHER : 0;
                case '<':
                    return d == '<' ? Sums.SHIFT_LEFT : d == '=' ? Sums.AT_MOST : Sums.LESS;
                case '>':
                    return d == '>' ? Sums.SHIFT_RIGHT : d == '=' ? Sums.AT_LEAST : Sums.MORE;
                case '+':
                    return Sums.PLUS;
                case '-':
                    return Sums.MINUS;
                case '*':
                    return Sums.TIMES;
                case '/':
                    return Sums.OVER;
                case '%':
                    return Sums.MODULO;
                default:
                    return 0;
            }
        }
    }

    /** Variables in their frames, and procedures. */
    private static final class Names {
        private final Text[] names = new Text[MOST_VARIABLES];
        /** Values, or of links the names where they lead. */
        final Text[] values = new Text[MOST_VARIABLES];
        private final int[] frames = new int[MOST_VARIABLES];
        /** The frames where links lead; NONE for what is no link. */
        private final int[] links = new int[MOST_VARIABLES];
        int count;
        private final int[] levels = new int[MOST_NESTED + 2];
        private final int[] callers = new int[MOST_NESTED + 2];
        private int frameCount = 1;
        /** The frame at hand. */
        int here;
        private final Text[] procedures = new Text[MOST_PROCEDURES];
        private final Text[] arguments = new Text[MOST_PROCEDURES];
        private final Text[] bodies = new Text[MOST_PROCEDURES];
        int procedureCount;
        private int spotFrame;
        private View spotName;
        private final Text target = new Text(LONGEST);

        void forget() {
            count = 0;
            procedureCount = 0;
            frameCount = 1;
            here = 0;
        }

        int level() {
            return levels[here];
        }

        /** The frame of a level, which is not above that of the frame at hand. */
        int frameOf(long level) {
            int frame = here;
            for (int i = 0; i < frameCount && levels[frame] > level; i++) {
                frame = callers[frame];
            }
            return frame;
        }

        void openFrame() {
            if (frameCount < levels.length) {
                levels[frameCount] = levels[here] + 1;
                callers[frameCount] = here;
                here = frameCount;
                frameCount++;
            }
        }

        void closeFrame() {
            for (int i = count - 1; i >= 0; i--) {
                if (frames[i] == here) {
                    remove(i);
                }
            }
            frameCount--;
            here = callers[here];
        }

        /** Puts the last one in the place of this one; its texts are kept, to be used again. */
        private void remove(int slot) {
            count--;
            Text name = names[slot];
            Text value = values[slot];
            names[slot] = names[count];
            values[slot] = values[count];
            frames[slot] = frames[count];
            links[slot] = links[count];
            names[count] = name;
            values[count] = value;
        }

        private int find(int frame, View name) {
            for (int i = 0; i < count; i++) {
                if (frames[i] == frame && names[i].same(name)) {
                    return i;
                }
            }
            return NONE;
        }

        /** The place of what this name means, links being followed; the spot says where it is or would be. */
        int resolve(int frame, View name) {
            spotFrame = frame;
            spotName = name;
            int slot = find(frame, name);
            for (int i = 0; i < MOST_VARIABLES && slot >= 0 && links[slot] >= 0; i++) {
                spotFrame = links[slot];
                spotName = values[slot];
                slot = find(spotFrame, spotName);
            }
            return slot;
        }

        Text value(int frame, View name) {
            int slot = resolve(frame, name);
            return slot < 0 ? null : values[slot];
        }

        /** Null, or why nothing could be put there. */
        String put(int frame, View name, View value) {
            int slot = resolve(frame, name);
            if (slot < 0) {
                String problem = refusal(spotName);
                if (problem != null) {
                    return problem;
                }
                slot = make(spotFrame, spotName);
            }
            values[slot].become(value);
            return null;
        }

        private String refusal(View name) {
            if (name.length() == 0) {
                return NO_VARIABLE;
            }
            return count < MOST_VARIABLES ? null : "too many variables";
        }

        private int make(int frame, View name) {
            int slot = count;
            if (names[slot] == null) {
                names[slot] = new Text(LONGEST);
                values[slot] = new Text(LONGEST);
            }
            names[slot].become(name);
            frames[slot] = frame;
            links[slot] = NONE;
            count++;
            return slot;
        }

        boolean unset(View name) {
            int slot = resolve(here, name);
            if (slot >= 0) {
                remove(slot);
            }
            return slot >= 0;
        }

        boolean isPlainVariable(View name) {
            int slot = find(here, name);
            return slot >= 0 && links[slot] < 0;
        }

        /** Whether that variable of that frame is this one of the frame at hand. */
        boolean leadsTo(int frame, View other, View name) {
            resolve(frame, other);
            return spotFrame == here && spotName.same(name);
        }

        /** Null, or why there can be no link. */
        String link(int frame, View other, View name) {
            resolve(frame, other);
            int leadsTo = spotFrame;
            target.become(spotName);
            int slot = find(here, name);
            if (slot < 0) {
                String problem = refusal(name);
                if (problem != null) {
                    return problem;
                }
                slot = make(here, name);
            }
            links[slot] = leadsTo;
            values[slot].become(target);
            return null;
        }

        int procedure(View name) {
            for (int i = 0; i < procedureCount; i++) {
                if (procedures[i].same(name)) {
                    return i;
                }
            }
            return NONE;
        }

        Text argumentsOf(int procedure) {
            return arguments[procedure];
        }

        Text bodyOf(int procedure) {
            return bodies[procedure];
        }

        boolean define(View name, View words, View body) {
            int place = procedure(name);
            if (place < 0) {
                if (procedureCount >= MOST_PROCEDURES) {
                    return false;
                }
                place = procedureCount;
                procedureCount++;
            }
            if (procedures[place] == null) {
                procedures[place] = new Text(LONGEST);
                arguments[place] = new Text(LONGEST);
                bodies[place] = new Text(LONGEST);
            }
            procedures[place].become(name);
            arguments[place].become(words);
            bodies[place].become(body);
            return true;
        }

        /** The first name behind this one, or the first of all behind null; null if there is none. */
        Text procedureBehind(Text name) {
            Text found = null;
            for (int i = 0; i < procedureCount; i++) {
                boolean behind = name == null || procedures[i].compare(name) > 0;
                if (behind && (found == null || procedures[i].compare(found) < 0)) {
                    found = procedures[i];
                }
            }
            return found;
        }
    }

    /** The peer: its rules, what it has still to send, what came of it, and the transcript. */
    private static final class Peer {
        private final Text[] patterns = new Text[MOST_RULES];
        private final Text[] answers = new Text[MOST_RULES];
        private final int[] states = new int[MOST_RULES];
        private final int[] delays = new int[MOST_RULES];
        private final int[] nexts = new int[MOST_RULES];
        int count;
        boolean spawned;
        private int state;
        private final Text line = new Text(LONGEST);
        private final long[] times = new long[MOST_ANSWERS];
        private final int[] waiting = new int[MOST_ANSWERS];
        private int waitingCount;
        final Text buffer = new Text(LONGEST + MOST_RULE_TEXT);
        long now;
        final Text told = new Text(MOST_TOLD);

        int learn(Text tape, int from, int delay, int next) {
            int zero = 0;
            while (zero < tape.to && tape.row[zero] != 0) {
                zero++;
            }
            boolean known = from >= 0 && from < MOST_STATES && next >= 0 && next < MOST_STATES
                && delay >= 0 && delay <= MOST_DELAY;
            boolean fits = zero < tape.to && zero <= MOST_RULE_TEXT && tape.to - zero - 1 <= MOST_RULE_TEXT;
            if (!known || !fits || count >= MOST_RULES) {
                return NONE;
            }
            if (patterns[count] == null) {
                patterns[count] = new Text(MOST_RULE_TEXT);
                answers[count] = new Text(MOST_RULE_TEXT);
            }
            patterns[count].wipe();
            for (int i = 0; i < zero; i++) {
                patterns[count].add(tape.row[i]);
            }
            answers[count].wipe();
            for (int i = zero + 1; i < tape.to; i++) {
                answers[count].add(tape.row[i]);
            }
            states[count] = from;
            delays[count] = delay;
            nexts[count] = next;
            count++;
            return count - 1;
        }

        void begin() {
            spawned = false;
            forget();
            now = 0;
            told.wipe();
        }

        private void forget() {
            state = 0;
            line.wipe();
            waitingCount = 0;
            buffer.wipe();
        }

        void spawn() {
            forget();
            spawned = true;
            getLine();
        }

        void get(View bytes) {
            for (int i = bytes.from; i < bytes.to; i++) {
                if (bytes.row[i] == '\n') {
                    getLine();
                } else {
                    line.add(bytes.row[i]);
                }
            }
        }

        private void getLine() {
            int found = NONE;
            for (int i = 0; i < count && found < 0; i++) {
                if (states[i] == state && line.fits(patterns[i])) {
                    found = i;
                }
            }
            line.wipe();
            if (found >= 0) {
                state = nexts[found];
                promise(found);
            }
        }

        private void promise(int rule) {
            if (waitingCount >= MOST_ANSWERS) {
                return;
            }
            long time = now + delays[rule];
            int place = waitingCount;
            while (place > 0 && times[place - 1] > time) {
                times[place] = times[place - 1];
                waiting[place] = waiting[place - 1];
                place--;
            }
            times[place] = time;
            waiting[place] = rule;
            waitingCount++;
        }

        /** Whether an answer came up to this time; it is received then. */
        boolean receive(long latest) {
            if (waitingCount == 0 || times[0] > latest) {
                return false;
            }
            now = Math.max(now, times[0]);
            Text answer = answers[waiting[0]];
            waitingCount--;
            for (int i = 0; i < waitingCount; i++) {
                times[i] = times[i + 1];
                waiting[i] = waiting[i + 1];
            }
            note(RECEIVED, answer);
            buffer.add(answer);
            buffer.dropFirst(buffer.to - LONGEST);
            return true;
        }

        void note(int what, View bytes) {
            int size = bytes.length() + (what == PUT_OUT ? 2 : 1);
            if (told.to + size > MOST_TOLD) {
                return;
            }
            told.add((char) what);
            told.add(bytes);
            if (what == PUT_OUT) {
                told.add('\n');
            }
        }
    }

    /**
     * The stack of tasks, and those tasks that read scripts, commands and words.
     *
     * A task is a stretch of cells; a task that waits for another one lies below it. When a task is done it
     * leaves a code, and a result or (brackets, phrases) bytes behind those of the task below.
     */
    private static final class Machine {
        int[] cells = new int[FIRST_CELLS];
        int top;
        int base = NONE;
        final Text bytes;
        final Text result = new Text(LONGEST);
        final Reader reader;
        final Names names = new Names();
        int code;
        /** The code that a return has told. */
        int given;
        /** The fuel that is left. */
        int left;
        boolean spent;
        /** How many scripts and expressions stand within one another. */
        int nested;
        final View[] words = new View[MOST_WORDS];
        int count;
        /** The command that is to be performed. */
        Verb verb = Verb.SET;
        private final View scratch;

        Machine(Text bytes, Reader reader) {
            this.bytes = bytes;
            this.reader = reader;
            scratch = new View(bytes.row);
            for (int i = 0; i < words.length; i++) {
                words[i] = new View(bytes.row);
            }
        }

        void begin(View script, int fuel) {
            rest();
            left = fuel;
            spent = false;
            code = FINE;
            given = FINE;
            result.wipe();
            bytes.add(script);
            openScript(0, bytes.to, false);
        }

        private void rest() {
            names.forget();
            bytes.wipe();
            top = 0;
            base = NONE;
            nested = 0;
        }

        int conclude() {
            rest();
            if (spent) {
                result.wipe();
                code = SPENT;
            } else if (code == RETURN) {
                code = given;
            } else {
                forbidStrayCodes();
            }
            return code;
        }

        void forbidStrayCodes() {
            if (code == BREAK) {
                fail(STRAY_BREAK);
            } else if (code == CONTINUE) {
                fail(STRAY_CONTINUE);
            }
        }

        boolean takeFuel() {
            if (left == 0) {
                spent = true;
                return false;
            }
            left--;
            return true;
        }

        void fail(String message) {
            code = ERROR;
            result.wipe();
            result.add(message);
        }

        /** The text is not that of the result. */
        void fail(String message, View about) {
            code = ERROR;
            result.wipe();
            result.add(message);
            result.add(about);
        }

        /** Fails with the result as what the message is about. */
        void failAboutResult(String message) {
            int mark = bytes.to;
            bytes.add(result);
            scratch.look(bytes.row, mark, bytes.to);
            fail(message, scratch);
            bytes.shorten(mark);
        }

        void answer(long number) {
            result.wipe();
            result.addNumber(number);
        }

        void answer(boolean truth) {
            answer(truth ? 1 : 0);
        }

        /** Whether a word is a place among so many; it fails otherwise. */
        boolean isPlace(View word, int among) {
            if (word.isIndex(among)) {
                return true;
            }
            fail(NO_INTEGER, word);
            return false;
        }

        /** What was joined in the result stays, if it isn't too long. */
        void answerJoined() {
            if (code == FINE && result.full) {
                fail(TOO_LONG);
            }
        }

        private void widen(int need) {
            if (need > cells.length) {
                int[] wide = new int[Math.min(MOST_CELLS, Math.max(need, cells.length * 2))];
                System.arraycopy(cells, 0, wide, 0, top);
                cells = wide;
            }
        }

        void open(int kind, int at, int end) {
            widen(top + CELLS);
            for (int i = 0; i < CELLS; i++) {
                cells[top + i] = 0;
            }
            cells[top + KIND] = kind;
            cells[top + BELOW] = base;
            cells[top + AT] = at;
            cells[top + END] = end;
            cells[top + MARK] = bytes.to;
            base = top;
            top += CELLS;
        }

        void push(int number) {
            widen(top + 1);
            cells[top] = number;
            top++;
        }

        /** The task is done; its bytes go. */
        void close() {
            bytes.shorten(cells[base + MARK]);
            top = base;
            base = cells[base + BELOW];
        }

        /** The task is done; its bytes stay behind those of the task below, which goes on at this place. */
        private void hand(int at) {
            top = base;
            base = cells[base + BELOW];
            cells[base + AT] = at;
        }

        void openScript(int from, int to, boolean inner) {
            open(SCRIPT, from, to);
            cells[base + INNER] = inner ? 1 : 0;
            if (!inner) {
                nested++;
            }
        }

        void openSum(int from, int to) {
            open(SUM, from, to);
        }

        void openPhrase(int mode, int at, int end) {
            open(PHRASE, at, end);
            cells[base + MODE] = mode;
        }

        void scriptTurn() {
            boolean inner = cells[base + INNER] == 1;
            if (cells[base + STATE] == NEW) {
                cells[base + STATE] = GOING;
                result.wipe();
                if (!inner && nested > MOST_NESTED) {
                    fail(TOO_DEEP);
                }
            }
            reader.end = cells[base + END];
            int at = code == FINE ? reader.beginning(cells[base + AT]) : NONE;
            if (at < 0 || reader.closes(at, inner)) {
                closeScript(inner, at);
            } else if (!inner && reader.command(at, false, 0) < 0) {
                fail(reader.problem);
                closeScript(false, NONE);
            } else {
                open(COMMAND, at, reader.end);
                cells[base + INNER] = inner ? 1 : 0;
            }
        }

        private void closeScript(boolean inner, int at) {
            close();
            if (!inner) {
                nested--;
            } else if (code == FINE) {
                bytes.add(result);
                cells[base + AT] = at + 1;
            }
        }

        void commandTurn() {
            if (code != FINE) {
                close();
                return;
            }
            if (cells[base + STATE] == GOING) {
                cells[base + STATE] = NEW;
                addWord();
            }
            boolean inner = cells[base + INNER] == 1;
            reader.end = cells[base + END];
            int at = reader.blanks(cells[base + AT]);
            for (int turn = 0; turn < MANY && !reader.closes(at, inner) && bytes.row[at] == '{'; turn++) {
                at = reader.blanks(copyBraces(at));
                addWord();
            }
            if (reader.closes(at, inner)) {
                cells[cells[base + BELOW] + AT] = at;
                beginCommand();
                return;
            }
            cells[base + STATE] = GOING;
            boolean quoted = bytes.row[at] == '"';
            int end = reader.end;
            openPhrase(quoted ? QUOTED : BARE, quoted ? at + 1 : at, end);
            cells[base + INNER] = inner ? 1 : 0;
        }

        /** Copies what stands in the braces that begin here, and answers the place behind them. */
        int copyBraces(int from) {
            int behind = reader.braces(from);
            int at = from + 1;
            for (int turn = 0; turn < MANY && at < behind - 1; turn++) {
                char c = bytes.row[at];
                if (c != '\\') {
                    bytes.add(c);
                    at++;
                } else if (bytes.row[at + 1] == '\n') {
                    bytes.add(' ');
                    at = reader.blanks(at);
                } else {
                    bytes.add(c);
                    bytes.add(bytes.row[at + 1]);
                    at += 2;
                }
            }
            return behind;
        }

        /** Of a command with words that are too long, or too many, the words are not kept. */
        private void addWord() {
            int mark = cells[base + MARK];
            int start = cells[base + COUNT] == 0 ? mark : cells[top - 1];
            if (bytes.to - start > LONGEST || bytes.to - mark > MOST_WORD_BYTES || cells[base + COUNT] >= MOST_WORDS) {
                cells[base + OVERLONG] = 1;
            }
            if (cells[base + OVERLONG] == 1) {
                bytes.shorten(mark);
                top = base + CELLS;
                cells[base + COUNT] = 0;
            } else {
                push(bytes.to);
                cells[base + COUNT]++;
            }
        }

        private void beginCommand() {
            if (!takeFuel()) {
                return;
            }
            if (cells[base + OVERLONG] == 1) {
                fail(TOO_LONG);
                close();
                return;
            }
            cells[base + STATE] = NEW;
            lookAtWords();
            Verb found = Verb.named(words[0], 0);
            if (found != null && found.takes(count - 1)) {
                verb = found;
                cells[base + KIND] = found.family;
            } else if (found != null) {
                fail(WRONG_NUMBER, words[0]);
                close();
            } else if (names.procedure(words[0]) >= 0) {
                cells[base + KIND] = CALL;
            } else {
                fail("no such command: ", words[0]);
                close();
            }
        }

        int wordFrom(int i) {
            return i == 0 ? cells[base + MARK] : cells[base + CELLS + i - 1];
        }

        int wordTo(int i) {
            return cells[base + CELLS + i];
        }

        void lookAtWords() {
            count = cells[base + COUNT];
            for (int i = 0; i < count; i++) {
                words[i].look(bytes.row, wordFrom(i), wordTo(i));
            }
        }

        void phraseTurn() {
            if (code != FINE) {
                close();
                return;
            }
            int mark = cells[base + MARK];
            int end = cells[base + END];
            reader.end = end;
            int at = cells[base + AT];
            for (int turn = 0; turn < MANY && at < end && bytes.to - mark <= LONGEST && !phraseCloses(at); turn++) {
                char c = bytes.row[at];
                if (c == '[') {
                    openScript(at + 1, end, true);
                    return;
                }
                at = c == '$' ? dollar(at) : copyByte(at);
                if (at < 0) {
                    return;
                }
            }
            if (bytes.to - mark > LONGEST) {
                fail(TOO_LONG);
                close();
                return;
            }
            closePhrase(at);
        }

        private boolean phraseCloses(int at) {
            switch (cells[base + MODE]) {
                case QUOTED:
                    return bytes.row[at] == '"';
                case INDEXED:
                    return bytes.row[at] == ')';
                default:
                    return reader.closes(at, cells[base + INNER] == 1) || reader.blanks(at) > at;
            }
        }

        private int copyByte(int at) {
            if (bytes.row[at] != '\\') {
                bytes.add(bytes.row[at]);
                return at + 1;
            }
            int behind = reader.blanks(at);
            if (behind > at) {
                bytes.add(' ');
                return behind;
            }
            int escaped = View.escape(bytes.row, at, reader.end);
            bytes.add((char) (escaped & 255));
            return escaped >> 8;
        }

        private void closePhrase(int at) {
            int mode = cells[base + MODE];
            if (mode != INDEXED) {
                hand(mode == QUOTED ? at + 1 : at);
                return;
            }
            int mark = cells[base + MARK];
            bytes.add(')');
            if (bytes.to - mark > LONGEST) {
                fail(TOO_LONG);
                close();
                return;
            }
            scratch.look(bytes.row, mark, bytes.to);
            Text value = names.value(names.here, scratch);
            if (value == null) {
                fail(NO_VARIABLE, scratch);
                close();
                return;
            }
            bytes.shorten(mark);
            bytes.add(value);
            hand(at + 1);
        }

        /**
         * Adds the value of the variable at this dollar, and answers the place behind; NONE if another task
         * goes first: that of an index, or the one below because it failed.
         */
        int dollar(int at) {
            int next = at + 1;
            if (next < reader.end && bytes.row[next] == '{') {
                int close = reader.closeBrace(next);
                return addValue(next + 1, close) ? close + 1 : NONE;
            }
            int stop = reader.nameEnd(next);
            if (stop == next) {
                bytes.add('$');
                return next;
            }
            if (stop < reader.end && bytes.row[stop] == '(') {
                int end = reader.end;
                openPhrase(INDEXED, stop + 1, end);
                scratch.look(bytes.row, next, stop + 1);
                bytes.add(scratch);
                return NONE;
            }
            return addValue(next, stop) ? stop : NONE;
        }

        private boolean addValue(int from, int to) {
            scratch.look(bytes.row, from, to);
            int slot = names.resolve(names.here, scratch);
            if (slot < 0) {
                fail(NO_VARIABLE, scratch);
                return false;
            }
            bytes.add(names.values[slot]);
            return true;
        }
    }

    /**
     * The evaluation of expressions that were read and found good.
     *
     * Values lie one behind another in the bytes. What is pending lies in the cells above the task, two for
     * each: what it is, and where the value behind it begins; the value ahead of it begins where that of the
     * one below does.
     */
    private static final class Sums {
        static final int OR = 1;
        static final int AND = 2;
        static final int BIT_OR = 3;
        static final int BIT_XOR = 4;
        static final int BIT_AND = 5;
        static final int EQUAL = 6;
        static final int UNEQUAL = 7;
        static final int SAME = 8;
        static final int OTHER = 9;
        static final int LESS = 10;
        static final int AT_MOST = 11;
        static final int MORE = 12;
        static final int AT_LEAST = 13;
        static final int SHIFT_LEFT = 14;
        static final int SHIFT_RIGHT = 15;
        static final int PLUS = 16;
        static final int MINUS = 17;
        static final int TIMES = 18;
        static final int OVER = 19;
        static final int MODULO = 20;
        static final int NEGATIVE = 21;
        static final int POSITIVE = 22;
        static final int NOT = 23;
        static final int INVERSE = 24;
        static final int PARENTHESIS = 25;
        static final int SECOND_PART = 26;
        static final int ABS = 27;
        static final int MIN = 28;
        static final int MAX = 29;
        static final int COMMA = 30;
        private static final int[] STRENGTHS =
            {0, 1, 2, 3, 4, 5, 6, 6, 6, 6, 7, 7, 7, 7, 8, 8, 9, 9, 10, 10, 10};
        private static final int[] WIDTHS =
            {0, 2, 2, 1, 1, 1, 2, 2, 2, 2, 1, 2, 1, 2, 2, 2, 1, 1, 1, 1, 1};

        private final Machine machine;
        private final View left;
        private final View right;
        private long value;

        Sums(Machine machine) {
            this.machine = machine;
            left = new View(machine.bytes.row);
            right = new View(machine.bytes.row);
        }

        /** How strongly an operator binds; 0 for what is none between operands. */
        static int strength(int operator) {
            return operator < STRENGTHS.length ? STRENGTHS[operator] : 0;
        }

        static int width(int operator) {
            return operator < WIDTHS.length ? WIDTHS[operator] : 0;
        }

        void turn() {
            if (machine.code == FINE && machine.cells[machine.base + STATE] == NEW) {
                begin();
            }
            machine.reader.end = machine.cells[machine.base + END];
            boolean going = machine.code == FINE && !machine.spent;
            for (int i = 0; going && i < MANY; i++) {
                going = machine.cells[machine.base + STATE] == WANTING ? operand() : operator();
            }
            if (machine.code != FINE) {
                machine.nested--;
                machine.close();
            }
        }

        private void begin() {
            if (!machine.takeFuel()) {
                return;
            }
            machine.nested++;
            machine.cells[machine.base + STATE] = WANTING;
            if (machine.nested > MOST_NESTED) {
                machine.fail(TOO_DEEP);
                return;
            }
            int from = machine.cells[machine.base + AT];
            int to = machine.cells[machine.base + END];
            machine.reader.end = to;
            int behind = machine.reader.expression(from, 1);
            if (behind < 0 && machine.reader.deep) {
                machine.fail(TOO_DEEP);
            } else if (behind != to) {
                left.look(machine.bytes.row, from, to);
                machine.fail("bad expression: ", left);
            }
        }

        private void goOn(int at, int state) {
            machine.cells[machine.base + AT] = at;
            machine.cells[machine.base + STATE] = state;
        }

        /** Leaves something pending behind the value at hand; a value is wanted next. */
        private boolean pend(int what, int at) {
            machine.push(what);
            machine.push(machine.bytes.to);
            goOn(at, WANTING);
            return true;
        }

        /** Works out an operand, or what stands ahead of one; false if another task goes first. */
        private boolean operand() {
            Reader reader = machine.reader;
            machine.bytes.reserve(TURN_BYTES);
            int at = reader.gap(machine.cells[machine.base + AT]);
            int sign = reader.sign(at);
            if (sign != 0) {
                return pend(sign, at + 1);
            }
            int function = reader.function(at);
            if (function != 0) {
                return pend(function, reader.gap(at + 3) + 1);
            }
            goOn(at, HAVING);
            switch (machine.bytes.row[at]) {
                case '(':
                    return pend(PARENTHESIS, at + 1);
                case '[':
                    machine.openScript(at + 1, reader.end, true);
                    return false;
                case '"':
                    machine.openPhrase(QUOTED, at + 1, reader.end);
                    return false;
                case '{':
                    goOn(machine.copyBraces(at), HAVING);
                    return true;
                case '$':
                    int behind = machine.dollar(at);
                    if (behind >= 0) {
                        goOn(behind, HAVING);
                    }
                    return behind >= 0;
                default:
                    int stop = reader.nameEnd(at);
                    left.look(machine.bytes.row, at, stop);
                    machine.bytes.add(left);
                    goOn(stop, HAVING);
                    return true;
            }
        }

        /** Works out what stands behind an operand; false at the end, or if something failed. */
        private boolean operator() {
            applySigns();
            int at = machine.reader.gap(machine.cells[machine.base + AT]);
            int operator = machine.reader.operator(at);
            applyPending(operator == 0 ? 1 : strength(operator));
            if (machine.code != FINE) {
                return false;
            }
            if (operator == 0) {
                boolean asks = at < machine.reader.end && machine.bytes.row[at] == '?';
                return asks ? question(at + 1) : closing(at);
            }
            if (operator == OR || operator == AND) {
                return shortcut(operator, at + 2);
            }
            return pend(operator, at + width(operator));
        }

        private boolean isPending() {
            return machine.top > machine.base + CELLS;
        }

        private int pending() {
            return machine.cells[machine.top - 2];
        }

        private int lastStart() {
            return isPending() ? machine.cells[machine.top - 1] : machine.cells[machine.base + MARK];
        }

        private void lookAtLast() {
            right.look(machine.bytes.row, lastStart(), machine.bytes.to);
        }

        private void replace(int start, long number) {
            machine.bytes.shorten(start);
            machine.bytes.addNumber(number);
        }

        private boolean isInteger(View value) {
            if (value.isInteger()) {
                return true;
            }
            machine.fail(NO_INTEGER, value);
            return false;
        }

        private void applySigns() {
            while (machine.code == FINE && isPending() && pending() >= NEGATIVE && pending() <= INVERSE) {
                lookAtLast();
                if (isInteger(right)) {
                    replace(right.from, signed(pending(), right.number));
                }
                machine.top -= 2;
            }
        }

        private static long signed(int sign, long number) {
            switch (sign) {
                case NEGATIVE:
                    return -number;
                case NOT:
                    return number == 0 ? 1 : 0;
                case INVERSE:
                    return ~number;
                default:
                    return number;
            }
        }

        /** Applies pending operators that bind at least so strongly. */
        private void applyPending(int strength) {
            while (machine.code == FINE && isPending() && strength(pending()) >= strength) {
                int operator = pending();
                lookAtLast();
                machine.top -= 2;
                left.look(machine.bytes.row, lastStart(), right.from);
                if (isWorkedOut(operator)) {
                    replace(left.from, value);
                }
            }
        }

        /** Leaves the value of left and right; false if it failed. */
        private boolean isWorkedOut(int operator) {
            if (operator == OR || operator == AND) {
                value = 0;
                if (isInteger(right) && right.number != 0) {
                    value = 1;
                }
            } else if (operator >= EQUAL && operator <= AT_LEAST) {
                value = compares(operator) ? 1 : 0;
            } else if (isInteger(left) && isInteger(right)) {
                calculate(operator, left.number, right.number);
            }
            return machine.code == FINE;
        }

        private boolean compares(int operator) {
            boolean asBytes = operator == SAME || operator == OTHER || !left.isInteger() || !right.isInteger();
            int order = asBytes ? left.compare(right) : Long.compare(left.number, right.number);
            switch (operator) {
                case EQUAL:
                case SAME:
                    return order == 0;
                case UNEQUAL:
                case OTHER:
                    return order != 0;
                case LESS:
                    return order < 0;
                case AT_MOST:
                    return order <= 0;
                case MORE:
                    return order > 0;
                default:
                    return order >= 0;
            }
        }

        private void calculate(int operator, long a, long b) {
            if (b == 0 && (operator == OVER || operator == MODULO)) {
                machine.fail("divided by zero");
            } else if (b < 0 && (operator == SHIFT_LEFT || operator == SHIFT_RIGHT)) {
                machine.fail("negative shift");
            } else {
                value = calculated(operator, a, b);
            }
        }

        private static long calculated(int operator, long a, long b) {
            switch (operator) {
                case BIT_OR:
                    return a | b;
                case BIT_XOR:
                    return a ^ b;
                case BIT_AND:
                    return a & b;
                case SHIFT_LEFT:
                    return b > 63 ? 0 : a << b;
                case SHIFT_RIGHT:
                    return a >> (b > 63 ? 63 : b);
                case PLUS:
                    return a + b;
                case MINUS:
                    return a - b;
                case TIMES:
                    return a * b;
                case OVER:
                    return b == 0 ? 0 : Math.floorDiv(a, b);
                default:
                    return b == 0 ? 0 : Math.floorMod(a, b);
            }
        }

        /** Passes over what stands behind || or && if the value ahead decides already. */
        private boolean shortcut(int operator, int at) {
            lookAtLast();
            if (!isInteger(right)) {
                return false;
            }
            boolean truth = right.number != 0;
            machine.bytes.shorten(right.from);
            if (truth != (operator == OR)) {
                return pend(operator, at);
            }
            machine.bytes.add(truth ? '1' : '0');
            goOn(machine.reader.chain(at, 1, strength(operator)), HAVING);
            return true;
        }

        /** What ends a part: the expression's end, a colon, a comma, or a parenthesis. */
        private boolean closing(int at) {
            if (at >= machine.reader.end) {
                finish();
                return false;
            }
            switch (machine.bytes.row[at]) {
                case ':':
                    machine.top -= 2;
                    goOn(machine.reader.expression(at + 1, 1), HAVING);
                    return true;
                case ',':
                    return pend(COMMA, at + 1);
                default:
                    goOn(at + 1, HAVING);
                    return closeGroup();
            }
        }

        private void finish() {
            lookAtLast();
            machine.result.become(right);
            machine.nested--;
            machine.close();
        }

        private boolean question(int at) {
            lookAtLast();
            if (!isInteger(right)) {
                return false;
            }
            machine.bytes.shorten(right.from);
            if (right.number != 0) {
                return pend(SECOND_PART, at);
            }
            goOn(machine.reader.expression(at, 1) + 1, WANTING);
            return true;
        }

        private boolean closeGroup() {
            int group = pending();
            lookAtLast();
            machine.top -= 2;
            if (group == ABS && isInteger(right)) {
                replace(right.from, right.number < 0 ? -right.number : right.number);
            } else if (group == COMMA) {
                int function = pending();
                left.look(machine.bytes.row, lastStart(), right.from);
                machine.top -= 2;
                if (isInteger(left) && isInteger(right)) {
                    boolean takesLeft = function == MIN ? left.number <= right.number : left.number >= right.number;
                    replace(left.from, takesLeft ? left.number : right.number);
                }
            }
            return machine.code == FINE;
        }
    }

    /** The commands of lists. */
    private static final class Lists {
        private final Machine machine;
        private final View[] words;
        private final Text result;
        private final Elements elements = new Elements();
        private final View one;
        private final View two;
        private int[] order = new int[LONGEST];
        private int[] spare = new int[LONGEST];
        private final long[] numbers = new long[LONGEST];
        private boolean byNumber;
        private boolean falling;
        private boolean unique;

        Lists(Machine machine) {
            this.machine = machine;
            words = machine.words;
            result = machine.result;
            one = new View(machine.bytes.row);
            two = new View(machine.bytes.row);
        }

        void perform() {
            result.wipe();
            boolean first = machine.verb != Verb.LIST && machine.verb != Verb.CONCAT && machine.verb != Verb.SPLIT
                && machine.verb != Verb.LSEARCH && machine.verb != Verb.LSORT;
            if (first && !isList(words[1])) {
                machine.close();
                return;
            }
            switch (machine.verb) {
                case LIST: addWords(1); break;
                case CONCAT: concat(); break;
                case SPLIT: split(); break;
                case LSEARCH: search(); break;
                case LSORT: sort(); break;
                case LLENGTH: machine.answer(elements.count); break;
                case LINDEX: index(); break;
                case LRANGE: range(); break;
                case LINSERT: insert(); break;
                case LREPLACE: replace(); break;
                case LREVERSE: reverse(); break;
                default: join(); break;
            }
            machine.answerJoined();
            machine.close();
        }

        private boolean isList(View text) {
            if (elements.read(text)) {
                return true;
            }
            machine.fail(BAD_LIST);
            return false;
        }

        private void addWords(int first) {
            for (int i = first; i < machine.count; i++) {
                result.addElement(words[i]);
            }
        }

        private void addElements(int from, int to) {
            for (int i = from; i < to; i++) {
                elements.pick(i, one);
                result.addElement(one);
            }
        }

        private void index() {
            View place = words[2];
            if (machine.isPlace(place, elements.count) && place.number >= 0 && place.number < elements.count) {
                elements.pick((int) place.number, one);
                result.add(one);
            }
        }

        private boolean isRange() {
            return machine.isPlace(words[2], elements.count) && machine.isPlace(words[3], elements.count);
        }

        private void range() {
            if (isRange()) {
                int from = words[2].within(0, elements.count);
                addElements(from, words[3].within(-1, elements.count - 1) + 1);
            }
        }

        private void insert() {
            View place = words[2];
            if (machine.isPlace(place, elements.count)) {
                int at = place.within(-1, elements.count);
                at = Math.max(0, Math.min(elements.count, place.countsFromEnd() ? at + 1 : at));
                addElements(0, at);
                addWords(3);
                addElements(at, elements.count);
            }
        }

        private void replace() {
            if (isRange()) {
                int from = words[2].within(0, elements.count);
                int to = words[3].within(-1, elements.count - 1) + 1;
                addElements(0, from);
                addWords(4);
                addElements(Math.max(from, to), elements.count);
            }
        }

        private void reverse() {
            for (int i = elements.count - 1; i >= 0; i--) {
                elements.pick(i, one);
                result.addElement(one);
            }
        }

        private void join() {
            for (int i = 0; i < elements.count; i++) {
                if (i > 0 && machine.count == 3) {
                    result.add(words[2]);
                } else if (i > 0) {
                    result.add(' ');
                }
                elements.pick(i, one);
                result.add(one);
            }
        }

        private void concat() {
            for (int i = 1; i < machine.count; i++) {
                int from = words[i].from;
                int to = words[i].to;
                while (from < to && isTrimmed(words[i].row[from])) {
                    from++;
                }
                while (to > from && isTrimmed(words[i].row[to - 1])) {
                    to--;
                }
                if (from < to && result.to > 0) {
                    result.add(' ');
                }
                one.look(words[i].row, from, to);
                result.add(one);
            }
        }

        private static boolean isTrimmed(char c) {
            return c == ' ' || c == '\t' || c == '\n';
        }

        private void split() {
            View text = words[1];
            boolean told = machine.count == 3;
            boolean bytewise = told && words[2].length() == 0;
            int from = text.from;
            for (int i = text.from; i < text.to; i++) {
                if (bytewise) {
                    one.look(text.row, i, i + 1);
                    result.addElement(one);
                } else if (told ? words[2].has(text.row[i]) : isTrimmed(text.row[i]) || text.row[i] == '\r') {
                    one.look(text.row, from, i);
                    result.addElement(one);
                    from = i + 1;
                }
            }
            if (!bytewise && text.length() > 0) {
                one.look(text.row, from, text.to);
                result.addElement(one);
            }
        }

        private void search() {
            boolean told = machine.count == 4;
            boolean exact = told && words[1].is("-exact");
            if (told && !exact && !words[1].is("-glob")) {
                machine.fail(BAD_OPTION, words[1]);
                return;
            }
            if (!isList(words[told ? 2 : 1])) {
                return;
            }
            View wanted = words[told ? 3 : 2];
            int found = NONE;
            for (int i = 0; i < elements.count && found < 0; i++) {
                elements.pick(i, one);
                if (exact ? one.same(wanted) : one.fits(wanted)) {
                    found = i;
                }
            }
            machine.answer(found);
        }

        private void sort() {
            if (!readOptions() || !isList(words[machine.count - 1]) || byNumber && !readNumbers()) {
                return;
            }
            for (int i = 0; i < elements.count; i++) {
                order[i] = i;
            }
            for (int width = 1; width < elements.count; width *= 2) {
                for (int from = 0; from < elements.count; from += 2 * width) {
                    merge(from, Math.min(from + width, elements.count), Math.min(from + 2 * width, elements.count));
                }
                int[] merged = spare;
                spare = order;
                order = merged;
            }
            for (int i = 0; i < elements.count; i++) {
                if (!unique || i + 1 == elements.count || compare(order[i], order[i + 1]) != 0) {
                    elements.pick(order[i], one);
                    result.addElement(one);
                }
            }
        }

        private boolean readOptions() {
            byNumber = false;
            falling = false;
            unique = false;
            for (int i = 1; i < machine.count - 1; i++) {
                if (!byNumber && words[i].is("-integer")) {
                    byNumber = true;
                } else if (!falling && words[i].is("-decreasing")) {
                    falling = true;
                } else if (!unique && words[i].is("-unique")) {
                    unique = true;
                } else {
                    machine.fail(BAD_OPTION, words[i]);
                    return false;
                }
            }
            return true;
        }

        private boolean readNumbers() {
            for (int i = 0; i < elements.count; i++) {
                elements.pick(i, one);
                if (!one.isInteger()) {
                    machine.fail(NO_INTEGER, one);
                    return false;
                }
                numbers[i] = one.number;
            }
            return true;
        }

        /** Of equal ones those ahead come first. */
        private void merge(int from, int middle, int to) {
            int low = from;
            int high = middle;
            for (int i = from; i < to; i++) {
                boolean takesHigh = low >= middle || high < to && compare(order[high], order[low]) < 0;
                spare[i] = takesHigh ? order[high++] : order[low++];
            }
        }

        private int compare(int a, int b) {
            elements.pick(a, one);
            elements.pick(b, two);
            int found = byNumber ? Long.compare(numbers[a], numbers[b]) : one.compare(two);
            return falling ? -found : found;
        }
    }

    /** The commands string and format. */
    private static final class Texts {
        private final Machine machine;
        private final View[] words;
        private final Text result;
        private final Elements elements = new Elements();
        private final View part;
        private final Text digits = new Text(LONGEST);
        private boolean toLeft;
        private boolean zeros;
        private boolean plus;
        private boolean space;
        private int width;
        private int at;
        private int nextWord;

        Texts(Machine machine) {
            this.machine = machine;
            words = machine.words;
            result = machine.result;
            part = new View(machine.bytes.row);
        }

        void perform() {
            result.wipe();
            if (machine.verb == Verb.FORMAT) {
                format();
            } else {
                Verb option = Verb.named(words[1], STRING_OPTION);
                if (isGood(option)) {
                    performOption(option, words[2]);
                }
            }
            machine.answerJoined();
            machine.close();
        }

        private boolean isGood(Verb option) {
            if (option == null) {
                machine.fail(BAD_OPTION, words[1]);
                return false;
            }
            if (option == Verb.IS && machine.count > 2 && !words[2].is("integer")) {
                machine.fail(BAD_OPTION, words[2]);
                return false;
            }
            if (!option.takes(machine.count - 2)) {
                machine.fail(WRONG_NUMBER, words[0]);
                return false;
            }
            return true;
        }

        private void performOption(Verb option, View first) {
            switch (option) {
                case LENGTH: machine.answer(first.length()); break;
                case INDEX: index(first); break;
                case RANGE: range(first); break;
                case COMPARE: machine.answer(first.compare(words[3])); break;
                case EQUAL: machine.answer(first.same(words[3])); break;
                case MATCH: machine.answer(words[3].fits(first)); break;
                case IS: machine.answer(words[3].isInteger()); break;
                case FIRST: findFirst(first, words[3]); break;
                case LAST: findLast(first, words[3]); break;
                case TOLOWER: changeCase(first, 'A', 'Z', 32); break;
                case TOUPPER: changeCase(first, 'a', 'z', -32); break;
                case TRIM: trim(first, true, true); break;
                case TRIMLEFT: trim(first, true, false); break;
                case TRIMRIGHT: trim(first, false, true); break;
                case REPEAT: repeat(first, words[3]); break;
                case REVERSE: reverse(first); break;
                case MAP: map(first, words[3]); break;
                default: replace(first); break;
            }
        }

        private void reverse(View text) {
            result.add(text);
            result.turnRound(0);
        }

        /** Adds the bytes from one place up to another one. */
        private void addPart(View text, int from, int to) {
            if (from < to) {
                part.look(text.row, text.from + from, text.from + to);
                result.add(part);
            }
        }

        private void index(View text) {
            View place = words[3];
            if (machine.isPlace(place, text.length()) && place.number >= 0 && place.number < text.length()) {
                result.add(text.row[text.from + (int) place.number]);
            }
        }

        private void range(View text) {
            if (machine.isPlace(words[3], text.length()) && machine.isPlace(words[4], text.length())) {
                int from = words[3].within(0, text.length());
                addPart(text, from, words[4].within(-1, text.length() - 1) + 1);
            }
        }

        private void replace(View text) {
            if (!machine.isPlace(words[3], text.length()) || !machine.isPlace(words[4], text.length())) {
                return;
            }
            int from = words[3].within(0, text.length());
            int to = words[4].within(-1, text.length() - 1) + 1;
            if (from >= to) {
                result.add(text);
                return;
            }
            addPart(text, 0, from);
            if (machine.count == 6) {
                result.add(words[5]);
            }
            addPart(text, to, text.length());
        }

        private void findFirst(View wanted, View text) {
            int from = 0;
            if (machine.count == 5) {
                if (!machine.isPlace(words[4], text.length())) {
                    return;
                }
                from = words[4].within(0, text.length());
            }
            int found = NONE;
            for (int i = from; i < text.length() && found < 0; i++) {
                if (wanted.length() > 0 && text.holds(wanted, i)) {
                    found = i;
                }
            }
            machine.answer(found);
        }

        private void findLast(View wanted, View text) {
            int last = text.length() - 1;
            if (machine.count == 5) {
                if (!machine.isPlace(words[4], text.length())) {
                    return;
                }
                last = words[4].within(-1, last);
            }
            int found = NONE;
            for (int i = last - wanted.length() + 1; i >= 0 && found < 0; i--) {
                if (wanted.length() > 0 && text.holds(wanted, i)) {
                    found = i;
                }
            }
            machine.answer(found);
        }

        private void changeCase(View text, char low, char high, int change) {
            for (int i = text.from; i < text.to; i++) {
                char c = text.row[i];
                result.add(c >= low && c <= high ? (char) (c + change) : c);
            }
        }

        private void trim(View text, boolean atLeft, boolean atRight) {
            int from = 0;
            int to = text.length();
            while (atLeft && from < to && isTrimmed(text.row[text.from + from])) {
                from++;
            }
            while (atRight && to > from && isTrimmed(text.row[text.from + to - 1])) {
                to--;
            }
            addPart(text, from, to);
        }

        private boolean isTrimmed(char c) {
            return machine.count == 4 ? words[3].has(c) : c == ' ' || c >= 9 && c <= 13;
        }

        private void repeat(View text, View times) {
            if (!times.isInteger()) {
                machine.fail(NO_INTEGER, times);
                return;
            }
            long most = text.length() == 0 ? 0 : Math.min(times.number, LONGEST + 1);
            for (int i = 0; i < most && !result.full; i++) {
                result.add(text);
            }
        }

        private void map(View pairs, View text) {
            if (!elements.read(pairs) || elements.count % 2 != 0) {
                machine.fail(BAD_LIST);
                return;
            }
            int i = 0;
            while (i < text.length()) {
                int pair = pairAt(text, i);
                if (pair < 0) {
                    result.add(text.row[text.from + i]);
                    i++;
                } else {
                    i += part.length();
                    elements.pick(pair + 1, part);
                    result.add(part);
                }
            }
        }

        /** The first element that is looked for and stands here, which is never an empty one; the part shows it. */
        private int pairAt(View text, int offset) {
            for (int i = 0; i + 1 < elements.count; i += 2) {
                elements.pick(i, part);
                if (part.length() > 0 && text.holds(part, offset)) {
                    return i;
                }
            }
            return NONE;
        }

        private void format() {
            View form = words[1];
            at = form.from;
            nextWord = 2;
            while (at < form.to && machine.code == FINE) {
                char c = form.row[at];
                at++;
                if (c == '%') {
                    convert(form);
                } else {
                    result.add(c);
                }
                machine.answerJoined();
            }
        }

        private void convert(View form) {
            readFlags(form);
            readWidth(form);
            char kind = at < form.to ? form.row[at] : 0;
            at++;
            if (width > LONGEST) {
                machine.fail(TOO_LONG);
            } else if (kind == '%') {
                result.add('%');
            } else if (!isConversion(kind)) {
                machine.fail("bad format: ", form);
            } else if (nextWord >= machine.count) {
                machine.fail("not enough words: format");
            } else if (kind == 's') {
                addPadded(words[nextWord], (char) 0, false);
                nextWord++;
            } else if (!words[nextWord].isInteger()) {
                machine.fail(NO_INTEGER, words[nextWord]);
            } else {
                convertNumber(kind, words[nextWord].number);
                nextWord++;
            }
        }

        private void readFlags(View form) {
            toLeft = false;
            zeros = false;
            plus = false;
            space = false;
            boolean isFlag = true;
            while (isFlag && at < form.to) {
                char c = form.row[at];
                toLeft = toLeft || c == '-';
                zeros = zeros || c == '0';
                plus = plus || c == '+';
                space = space || c == ' ';
                isFlag = c == '-' || c == '0' || c == '+' || c == ' ';
                if (isFlag) {
                    at++;
                }
            }
        }

        private void readWidth(View form) {
            width = 0;
            while (at < form.to && form.row[at] >= '0' && form.row[at] <= '9') {
                width = Math.min(width * 10 + form.row[at] - '0', LONGEST + 1);
                at++;
            }
        }

        private static boolean isConversion(char kind) {
            return kind == 'd' || kind == 'x' || kind == 'X' || kind == 'o' || kind == 'c' || kind == 's';
        }

        private void convertNumber(char kind, long number) {
            digits.wipe();
            switch (kind) {
                case 'd':
                    digits.addNumber(number);
                    break;
                case 'o':
                    digits.addBits(number, 3, false);
                    break;
                case 'c':
                    digits.add((char) (number & 255));
                    break;
                default:
                    digits.addBits(number, 4, kind == 'X');
                    break;
            }
            boolean below = kind == 'd' && number < 0;
            char sign = below ? '-' : 0;
            if (kind == 'd' && !below) {
                sign = plus ? '+' : space ? ' ' : 0;
            }
            part.look(digits.row, below ? 1 : 0, digits.to);
            addPadded(part, sign, zeros && !toLeft && kind != 'c');
        }

        private void addPadded(View text, char sign, boolean withZeros) {
            int lacking = width - text.length() - (sign == 0 ? 0 : 1);
            if (!toLeft && !withZeros) {
                fill(' ', lacking);
            }
            if (sign != 0) {
                result.add(sign);
            }
            if (withZeros) {
                fill('0', lacking);
            }
            result.add(text);
            if (toLeft) {
                fill(' ', lacking);
            }
        }

        private void fill(char c, int times) {
            for (int i = 0; i < times; i++) {
                result.add(c);
            }
        }
    }

    /** The commands of variables, procedures and the peer, and those that run scripts. */
    private static final class Flow {
        private final Machine machine;
        private final Names names;
        private final Peer peer;
        private final View[] words;
        private final Text result;
        private final Elements elements = new Elements();
        private final Elements pair = new Elements();
        private final View part;
        private final View other;
        private int from;
        private int to;

        Flow(Machine machine, Peer peer) {
            this.machine = machine;
            this.peer = peer;
            names = machine.names;
            words = machine.words;
            result = machine.result;
            part = new View(machine.bytes.row);
            other = new View(machine.bytes.row);
        }

        void performPlaces() {
            result.wipe();
            switch (machine.verb) {
                case SET: set(); break;
                case UNSET: unset(); break;
                case INCR: increase(); break;
                case APPEND: append(false); break;
                case LAPPEND: append(true); break;
                case GLOBAL: global(); break;
                case UPVAR: upvar(); break;
                case PROC: define(); break;
                default: inform(); break;
            }
            machine.close();
        }

        private void unset() {
            if (!names.unset(words[1])) {
                machine.fail(NO_VARIABLE, words[1]);
            }
        }

        private void global() {
            for (int i = 1; i < machine.count && names.level() > 0 && machine.code == FINE; i++) {
                link(0, words[i], words[i]);
            }
        }

        private void put(int frame, View name, View value) {
            String problem = names.put(frame, name, value);
            if (problem != null) {
                machine.fail(problem);
            }
        }

        private void set() {
            if (machine.count == 3) {
                result.add(words[2]);
                put(names.here, words[1], words[2]);
                return;
            }
            Text value = names.value(names.here, words[1]);
            if (value == null) {
                machine.fail(NO_VARIABLE, words[1]);
            } else {
                result.add(value);
            }
        }

        private void increase() {
            Text value = names.value(names.here, words[1]);
            long step = 1;
            if (value != null && !value.isInteger()) {
                machine.fail(NO_INTEGER, value);
                return;
            }
            if (machine.count == 3) {
                if (!words[2].isInteger()) {
                    machine.fail(NO_INTEGER, words[2]);
                    return;
                }
                step = words[2].number;
            }
            machine.answer((value == null ? 0 : value.number) + step);
            put(names.here, words[1], result);
        }

        private void append(boolean asElements) {
            Text value = names.value(names.here, words[1]);
            if (value != null) {
                result.add(value);
            }
            if (asElements && !elements.read(result)) {
                machine.fail(BAD_LIST);
                return;
            }
            for (int i = 2; i < machine.count; i++) {
                if (asElements) {
                    result.addElement(words[i]);
                } else {
                    result.add(words[i]);
                }
            }
            machine.answerJoined();
            if (machine.code == FINE) {
                put(names.here, words[1], result);
            }
        }

        private void link(int frame, View far, View name) {
            if (names.leadsTo(frame, far, name)) {
                return;
            }
            if (names.isPlainVariable(name)) {
                machine.fail("variable is there: ", name);
                return;
            }
            String problem = names.link(frame, far, name);
            if (problem != null) {
                machine.fail(problem);
            }
        }

        private void upvar() {
            boolean told = machine.count % 2 == 0;
            long level = told ? levelOf(words[1]) : names.level() - 1;
            if (!isLevel(level, told)) {
                return;
            }
            int frame = names.frameOf(level);
            for (int i = told ? 2 : 1; i + 1 < machine.count && machine.code == FINE; i += 2) {
                link(frame, words[i], words[i + 1]);
            }
        }

        /** The level that a word tells, counted from the run's; NONE if there is no such one. */
        private long levelOf(View word) {
            boolean counted = word.length() > 0 && word.row[word.from] == '#';
            part.look(word.row, counted ? word.from + 1 : word.from, word.to);
            if (!part.isInteger() || part.number < 0 || part.number > names.level()) {
                return NONE;
            }
            return counted ? part.number : names.level() - part.number;
        }

        private boolean isLevel(long level, boolean told) {
            if (level >= 0) {
                return true;
            }
            machine.fail(NO_LEVEL);
            if (told) {
                result.add(words[1]);
            } else {
                result.add('1');
            }
            return false;
        }

        private void inform() {
            Verb option = Verb.named(words[1], INFO_OPTION);
            if (option == null) {
                machine.fail(BAD_OPTION, words[1]);
            } else if (!option.takes(machine.count - 2)) {
                machine.fail(WRONG_NUMBER, words[0]);
            } else if (option == Verb.EXISTS) {
                machine.answer(names.value(names.here, words[2]) != null);
            } else if (option == Verb.LEVEL) {
                machine.answer(names.level());
            } else {
                addProcedures();
            }
        }

        private void addProcedures() {
            Text name = names.procedureBehind(null);
            for (int i = 0; i < MOST_PROCEDURES && name != null; i++) {
                result.addElement(name);
                name = names.procedureBehind(name);
            }
            machine.answerJoined();
        }

        private void define() {
            if (Verb.named(words[1], 0) != null) {
                machine.fail("can't be changed: ", words[1]);
                return;
            }
            if (!elements.read(words[2])) {
                machine.fail(BAD_LIST);
                return;
            }
            for (int i = 0; i < elements.count && machine.code == FINE; i++) {
                elements.pick(i, part);
                if (!pair.read(part)) {
                    machine.fail(BAD_LIST);
                } else if (pair.count < 1 || pair.count > 2) {
                    machine.fail("bad argument: ", part);
                }
            }
            if (machine.code == FINE && !names.define(words[1], words[2], words[3])) {
                machine.fail("too many procedures");
            }
        }

        /** Shows an argument of the procedure at hand in the pair. */
        private void readArgument(int i) {
            elements.pick(i, part);
            pair.read(part);
            pair.pick(0, part);
        }

        void call() {
            int procedure = names.procedure(words[0]);
            Text body = names.bodyOf(procedure);
            elements.read(names.argumentsOf(procedure));
            int plain = elements.count;
            readArgument(plain - 1);
            boolean takesRest = plain > 0 && part.is("args");
            if (takesRest) {
                plain--;
            }
            if (!isGiven(plain, takesRest)) {
                machine.fail(WRONG_NUMBER, words[0]);
                machine.close();
                return;
            }
            names.openFrame();
            for (int i = 0; i < elements.count && machine.code == FINE; i++) {
                setArgument(i, i == plain);
            }
            if (machine.code != FINE) {
                names.closeFrame();
                machine.close();
                return;
            }
            machine.cells[machine.base + KIND] = CALLED;
            int start = machine.bytes.to;
            machine.bytes.add(body);
            machine.openScript(start, machine.bytes.to, false);
        }

        private boolean isGiven(int plain, boolean takesRest) {
            int told = machine.count - 1;
            boolean given = takesRest || told <= plain;
            for (int i = told; i < plain && given; i++) {
                readArgument(i);
                given = pair.count == 2;
            }
            return given;
        }

        private void setArgument(int i, boolean takesRest) {
            readArgument(i);
            result.wipe();
            if (takesRest) {
                for (int k = i + 1; k < machine.count; k++) {
                    result.addElement(words[k]);
                }
                machine.answerJoined();
            } else if (i + 1 < machine.count) {
                result.add(words[i + 1]);
            } else {
                pair.pick(1, other);
                result.add(other);
            }
            if (machine.code == FINE) {
                put(names.here, part, result);
            }
        }

        void called() {
            names.closeFrame();
            if (machine.code == RETURN) {
                machine.code = machine.given;
                machine.given = FINE;
            } else {
                machine.forbidStrayCodes();
            }
            machine.close();
        }

        void performTalk() {
            result.wipe();
            switch (machine.verb) {
                case PUTS: peer.note(PUT_OUT, words[1]); break;
                case SPAWN: peer.spawn(); break;
                case SEND: send(); break;
                case AFTER: after(); break;
                default: machine.answer(peer.now); break;
            }
            machine.close();
        }

        private void send() {
            if (!peer.spawned) {
                machine.fail(NO_PEER);
                return;
            }
            peer.note(SENT, words[1]);
            peer.get(words[1]);
        }

        private void after() {
            if (words[1].isInteger()) {
                peer.now += ticks(words[1].number);
            } else {
                machine.fail(NO_INTEGER, words[1]);
            }
        }

        private static long ticks(long number) {
            return Math.max(0, Math.min(MOST_TICKS, number));
        }

        /** A command that may run scripts: either it is done at once, or its task goes on. */
        void perform() {
            result.wipe();
            switch (machine.verb) {
                case IF: beginChoice(); break;
                case WHILE: beginLoop(1, 0, 2); break;
                case FOR: beginLoop(2, 3, 4); break;
                case FOREACH: beginRounds(); break;
                case SWITCH: pickBody(); break;
                case EVAL: evaluate(); break;
                case UPLEVEL: lift(); break;
                case CATCH: guard(); break;
                case EXPR: calculate(); break;
                default: giveCode(); break;
            }
        }

        private void evaluate() {
            if (isJoined(1)) {
                pass();
            }
        }

        private void calculate() {
            if (isJoined(1)) {
                machine.cells[machine.base + KIND] = PASS;
                machine.openSum(from, to);
            }
        }

        private void guard() {
            machine.cells[machine.base + KIND] = CAUGHT;
            openBody(1);
        }

        private void giveCode() {
            switch (machine.verb) {
                case BREAK:
                    machine.code = DialogueTongue.BREAK;
                    break;
                case CONTINUE:
                    machine.code = DialogueTongue.CONTINUE;
                    break;
                case ERROR:
                    machine.code = DialogueTongue.ERROR;
                    result.add(words[1]);
                    break;
                default:
                    giveBack();
                    break;
            }
            machine.close();
        }

        private void giveBack() {
            boolean coded = machine.count > 2 && words[1].is("-code");
            if (machine.count > 2 && !coded) {
                machine.fail(WRONG_NUMBER, words[0]);
                return;
            }
            int given = coded ? codeOf(words[2]) : FINE;
            if (given < 0) {
                machine.fail("bad code: ", words[2]);
                return;
            }
            int text = coded ? 3 : 1;
            if (text < machine.count) {
                result.add(words[text]);
            }
            machine.given = given;
            machine.code = RETURN;
        }

        private static int codeOf(View word) {
            if (word.isInteger()) {
                return word.number >= FINE && word.number <= DialogueTongue.CONTINUE ? (int) word.number : NONE;
            }
            if (word.is("ok")) {
                return FINE;
            }
            if (word.is("error")) {
                return DialogueTongue.ERROR;
            }
            if (word.is("return")) {
                return RETURN;
            }
            if (word.is("break")) {
                return DialogueTongue.BREAK;
            }
            return word.is("continue") ? DialogueTongue.CONTINUE : NONE;
        }

        private void failAndClose(String message) {
            machine.fail(message);
            machine.close();
        }

        /** Runs a word of the command, which waits for it. */
        private void openBody(int word) {
            machine.openScript(machine.wordFrom(word), machine.wordTo(word), false);
        }

        /** Runs the script from here to there; what it gives is the command's own. */
        private void pass() {
            machine.cells[machine.base + KIND] = PASS;
            machine.openScript(from, to, false);
        }

        private void passTo(int word) {
            from = machine.wordFrom(word);
            to = machine.wordTo(word);
            pass();
        }

        /** Joins the words from this one on; what is too long ends the command. */
        private boolean isJoined(int first) {
            from = words[first].from;
            to = words[first].to;
            if (first + 1 == machine.count) {
                return true;
            }
            from = machine.bytes.to;
            for (int i = first; i < machine.count; i++) {
                if (i > first) {
                    machine.bytes.add(' ');
                }
                machine.bytes.add(words[i]);
            }
            to = machine.bytes.to;
            if (to - from <= LONGEST) {
                return true;
            }
            failAndClose(TOO_LONG);
            return false;
        }

        private void lift() {
            boolean told = machine.count > 2 && isLevelWord(words[1]);
            long level = told ? levelOf(words[1]) : names.level() - 1;
            if (!isLevel(level, told)) {
                machine.close();
                return;
            }
            if (isJoined(told ? 2 : 1)) {
                machine.cells[machine.base + KIND] = LIFTED;
                machine.cells[machine.base + FRAME] = names.here;
                names.here = names.frameOf(level);
                machine.openScript(from, to, false);
            }
        }

        private static boolean isLevelWord(View word) {
            int first = word.length() > 0 && word.row[word.from] == '#' ? word.from + 1 : word.from;
            for (int i = first; i < word.to; i++) {
                if (word.row[i] < '0' || word.row[i] > '9') {
                    return false;
                }
            }
            return first < word.to;
        }

        void lifted() {
            names.here = machine.cells[machine.base + FRAME];
            machine.close();
        }

        void caught() {
            int code = machine.code;
            machine.code = FINE;
            machine.lookAtWords();
            if (machine.count == 3) {
                put(names.here, words[2], result);
            }
            if (machine.code == FINE) {
                machine.answer(code);
            }
            machine.close();
        }

        /** Whether the result of a test is true; false also if it is no integer, which is an error. */
        private boolean isTrue() {
            if (result.isInteger()) {
                return result.number != 0;
            }
            machine.failAboutResult(NO_INTEGER);
            return false;
        }

        private void beginChoice() {
            if (!isChoice()) {
                machine.fail(WRONG_NUMBER, words[0]);
                machine.close();
                return;
            }
            machine.cells[machine.base + KIND] = CHOICE;
            test(1);
        }

        private void test(int word) {
            machine.cells[machine.base + TEST] = word;
            machine.cells[machine.base + STATE] = TESTED;
            machine.openSum(machine.wordFrom(word), machine.wordTo(word));
        }

        /** The body that belongs to a test. */
        private int bodyOf(int test) {
            return test + 1 < machine.count && words[test + 1].is("then") ? test + 2 : test + 1;
        }

        private boolean isChoice() {
            int body = bodyOf(1);
            for (int turn = 0; turn < MANY && body + 1 < machine.count && words[body + 1].is("elseif"); turn++) {
                body = bodyOf(body + 2);
            }
            int last = body + 1;
            if (last < machine.count && words[last].is("else")) {
                last++;
                return last + 1 == machine.count;
            }
            return body < machine.count && last + 1 >= machine.count;
        }

        void choose() {
            boolean truth = machine.code == FINE && isTrue();
            if (machine.code != FINE) {
                machine.close();
                return;
            }
            machine.lookAtWords();
            int body = bodyOf(machine.cells[machine.base + TEST]);
            int next = body + 1;
            if (truth) {
                passTo(body);
            } else if (next >= machine.count) {
                result.wipe();
                machine.close();
            } else if (words[next].is("elseif")) {
                test(next + 1);
            } else {
                passTo(words[next].is("else") ? next + 1 : next);
            }
        }

        private void beginLoop(int test, int next, int body) {
            machine.cells[machine.base + KIND] = LOOP;
            machine.cells[machine.base + NEXT] = next;
            machine.cells[machine.base + BODY] = body;
            if (next == 0) {
                test(test);
            } else {
                machine.cells[machine.base + TEST] = test;
                machine.cells[machine.base + STATE] = GOING;
                openBody(1);
            }
        }

        void loop() {
            int state = machine.cells[machine.base + STATE];
            int next = machine.cells[machine.base + NEXT];
            if (state == STEPPED && machine.code == DialogueTongue.CONTINUE) {
                machine.fail(STRAY_CONTINUE);
            }
            boolean ends = state != GOING && state != TESTED && endsRound();
            boolean falls = state == TESTED && machine.code == FINE && !isTrue();
            if (machine.code != FINE) {
                machine.close();
            } else if (ends || falls) {
                result.wipe();
                machine.close();
            } else if (state == TESTED) {
                machine.cells[machine.base + STATE] = DONE;
                openBody(machine.cells[machine.base + BODY]);
            } else if (state == DONE && next > 0) {
                machine.cells[machine.base + STATE] = STEPPED;
                openBody(next);
            } else {
                test(machine.cells[machine.base + TEST]);
            }
        }

        /** Takes the codes of a body that its loop is meant by; true if the loop ends by it. */
        private boolean endsRound() {
            boolean ends = machine.code == DialogueTongue.BREAK;
            if (ends || machine.code == DialogueTongue.CONTINUE) {
                machine.code = FINE;
            }
            return ends;
        }

        private void beginRounds() {
            if (!elements.read(words[2])) {
                failAndClose(BAD_LIST);
                return;
            }
            machine.cells[machine.base + KIND] = ROUNDS;
            machine.cells[machine.base + AT] = words[2].from;
        }

        void rounds() {
            boolean ends = machine.cells[machine.base + STATE] == DONE && endsRound();
            if (machine.code != FINE) {
                machine.close();
                return;
            }
            other.look(machine.bytes.row, machine.wordFrom(2), machine.wordTo(2));
            int at = Elements.skip(other, machine.cells[machine.base + AT]);
            if (ends || at >= other.to) {
                result.wipe();
                machine.close();
                return;
            }
            if (!machine.takeFuel()) {
                return;
            }
            elements.bytes.wipe();
            machine.cells[machine.base + AT] = elements.take(other, at);
            part.look(machine.bytes.row, machine.wordFrom(1), machine.wordTo(1));
            put(names.here, part, elements.bytes);
            if (machine.code == FINE) {
                machine.cells[machine.base + STATE] = DONE;
                openBody(3);
            } else {
                machine.close();
            }
        }

        private void pickBody() {
            boolean told = machine.count > 3 && (words[1].is("-exact") || words[1].is("-glob"));
            int first = told ? 3 : 2;
            boolean listed = first + 1 == machine.count;
            if (listed && !elements.read(words[first])) {
                failAndClose(BAD_LIST);
                return;
            }
            int parts = listed ? elements.count : machine.count - first;
            if (parts % 2 != 0) {
                failAndClose("extra pattern without body");
                return;
            }
            if (listed) {
                first = NONE;
            }
            int found = findPattern(words[told ? 2 : 1], first, parts, told && words[1].is("-glob"));
            if (found < 0) {
                machine.close();
                return;
            }
            int body = found + 1;
            while (body < parts && partAt(body, first).is("-")) {
                body += 2;
            }
            if (body >= parts) {
                machine.fail("no body: ", partAt(found, first));
                machine.close();
                return;
            }
            passPart(partAt(body, first), first);
        }

        /** A pattern or a body of a switch: a word from the first one on, or without one an element. */
        private View partAt(int i, int first) {
            if (first >= 0) {
                return words[first + i];
            }
            elements.pick(i, part);
            return part;
        }

        private int findPattern(View text, int first, int parts, boolean glob) {
            for (int i = 0; i < parts; i += 2) {
                View pattern = partAt(i, first);
                boolean usual = i + 2 == parts && pattern.is("default");
                if (usual || (glob ? text.fits(pattern) : text.same(pattern))) {
                    return i;
                }
            }
            return NONE;
        }

        private void passPart(View body, int first) {
            from = body.from;
            to = body.to;
            if (first < 0) {
                from = machine.bytes.to;
                machine.bytes.add(body);
                to = machine.bytes.to;
            }
            pass();
        }

        void expect() {
            result.wipe();
            if (machine.count % 2 == 0) {
                machine.fail(WRONG_NUMBER, words[0]);
                machine.close();
                return;
            }
            if (!peer.spawned) {
                failAndClose(NO_PEER);
                return;
            }
            long latest = peer.now + patience();
            int body = takeFitting();
            for (int i = 0; i < MOST_ANSWERS && body < 0 && machine.code == FINE && peer.receive(latest); i++) {
                body = takeFitting();
            }
            if (body < 0 && machine.code == FINE) {
                peer.now = latest;
                body = lateBody();
            }
            if (body < 0 || machine.code != FINE) {
                machine.close();
            } else {
                passTo(body);
            }
        }

        private void lookAt(String word) {
            elements.bytes.wipe();
            elements.bytes.add(word);
        }

        private long patience() {
            lookAt("timeout");
            Text value = names.value(0, elements.bytes);
            return value != null && value.isInteger() ? ticks(value.number) : USUAL_TICKS;
        }

        /** Takes what the first fitting pattern takes; its body, or NONE if none fits or it failed. */
        private int takeFitting() {
            for (int i = 1; i + 1 < machine.count; i += 2) {
                int size = words[i].is("timeout") ? NONE : peer.buffer.reach(words[i]);
                if (size >= 0) {
                    part.look(peer.buffer.row, 0, size);
                    lookAt("expect_out");
                    put(0, elements.bytes, part);
                    if (machine.code == FINE) {
                        peer.buffer.dropFirst(size);
                    }
                    return i + 1;
                }
            }
            return NONE;
        }

        private int lateBody() {
            for (int i = 1; i + 1 < machine.count; i += 2) {
                if (words[i].is("timeout")) {
                    return i + 1;
                }
            }
            return NONE;
        }
    }

    /** The names of commands, and of what string and info do, with the numbers of words behind them. */
    private enum Verb {
        SET(PLACES, "set", 1, 2),
        EXPR(FLOW, "expr", 1, MANY),
        IF(FLOW, "if", 2, MANY),
        WHILE(FLOW, "while", 2, 2),
        FOR(FLOW, "for", 4, 4),
        FOREACH(FLOW, "foreach", 3, 3),
        INCR(PLACES, "incr", 1, 2),
        APPEND(PLACES, "append", 1, MANY),
        LAPPEND(PLACES, "lappend", 1, MANY),
        UNSET(PLACES, "unset", 1, 1),
        BREAK(FLOW, "break", 0, 0),
        CONTINUE(FLOW, "continue", 0, 0),
        SWITCH(FLOW, "switch", 2, MANY),
        PROC(PLACES, "proc", 3, 3),
        RETURN(FLOW, "return", 0, 3),
        GLOBAL(PLACES, "global", 1, MANY),
        UPVAR(PLACES, "upvar", 2, MANY),
        UPLEVEL(FLOW, "uplevel", 1, MANY),
        EVAL(FLOW, "eval", 1, MANY),
        CATCH(FLOW, "catch", 1, 2),
        ERROR(FLOW, "error", 1, 1),
        INFO(PLACES, "info", 1, MANY),
        LIST(LISTS, "list", 0, MANY),
        LLENGTH(LISTS, "llength", 1, 1),
        LINDEX(LISTS, "lindex", 2, 2),
        LRANGE(LISTS, "lrange", 3, 3),
        LSEARCH(LISTS, "lsearch", 2, 3),
        LINSERT(LISTS, "linsert", 2, MANY),
        LREPLACE(LISTS, "lreplace", 3, MANY),
        LREVERSE(LISTS, "lreverse", 1, 1),
        LSORT(LISTS, "lsort", 1, 4),
        CONCAT(LISTS, "concat", 0, MANY),
        JOIN(LISTS, "join", 1, 2),
        SPLIT(LISTS, "split", 1, 2),
        STRING(TEXTS, "string", 1, MANY),
        FORMAT(TEXTS, "format", 1, MANY),
        PUTS(TALK, "puts", 1, 1),
        SPAWN(TALK, "spawn", 0, 0),
        SEND(TALK, "send", 1, 1),
        EXPECT(WAIT, "expect", 2, MANY),
        AFTER(TALK, "after", 1, 1),
        CLOCK(TALK, "clock", 0, 0),

        LENGTH(STRING_OPTION, "length", 1, 1),
        INDEX(STRING_OPTION, "index", 2, 2),
        RANGE(STRING_OPTION, "range", 3, 3),
        COMPARE(STRING_OPTION, "compare", 2, 2),
        EQUAL(STRING_OPTION, "equal", 2, 2),
        MATCH(STRING_OPTION, "match", 2, 2),
        FIRST(STRING_OPTION, "first", 2, 3),
        LAST(STRING_OPTION, "last", 2, 3),
        TOLOWER(STRING_OPTION, "tolower", 1, 1),
        TOUPPER(STRING_OPTION, "toupper", 1, 1),
        TRIM(STRING_OPTION, "trim", 1, 2),
        TRIMLEFT(STRING_OPTION, "trimleft", 1, 2),
        TRIMRIGHT(STRING_OPTION, "trimright", 1, 2),
        REPEAT(STRING_OPTION, "repeat", 2, 2),
        REVERSE(STRING_OPTION, "reverse", 1, 1),
        IS(STRING_OPTION, "is", 2, 2),
        MAP(STRING_OPTION, "map", 2, 2),
        REPLACE(STRING_OPTION, "replace", 3, 4),

        EXISTS(INFO_OPTION, "exists", 1, 1),
        LEVEL(INFO_OPTION, "level", 0, 0),
        PROCS(INFO_OPTION, "procs", 0, 0);

        private static final Verb[] ALL = values();

        final int family;
        final String word;
        final int least;
        final int most;

        Verb(int family, String word, int least, int most) {
            this.family = family;
            this.word = word;
            this.least = least;
            this.most = most;
        }

        boolean takes(int number) {
            return number >= least && number <= most;
        }

        /** What a word names: an option of that family, or with 0 a command; null if it is none. */
        static Verb named(View name, int options) {
            for (int i = 0; i < ALL.length; i++) {
                Verb verb = ALL[i];
                boolean meant = options == 0 ? verb.family < STRING_OPTION : verb.family == options;
                if (meant && name.is(verb.word)) {
                    return verb;
                }
            }
            return null;
        }
    }
}
