import java.util.ArrayList;
import java.util.List;
import java.util.NoSuchElementException;

/** What the tests share: an object of DialogueTongue that takes texts, and a count of what was wrong. */
final class Talk {
    /** The document says nothing of an object's calls behind the 512th; some are left to what tests call by themselves. */
    private static final int MOST_CALLS = 512 - 64;
    private static final int MOST_TAPE = 4096;
    /** Of a longer text only so many bytes at each end are looked at. */
    private static final int END_BYTES = 100;

    private static int checks = 0;
    private static int wrong = 0;
    private static String sentence = "";
    private static int sentences = 0;
    private static int checksAhead = 0;

    DialogueTongue tongue = new DialogueTongue();
    private int calls = 0;
    private final List<int[]> ruleNumbers = new ArrayList<>();
    private final List<String> ruleTexts = new ArrayList<>();

    /** Begins the test of a sentence of the document, with a new object; the sentence is told with what is wrong. */
    static Talk about(String words) {
        lookAtSentence();
        sentence = words;
        sentences++;
        checksAhead = checks;
        return new Talk();
    }

    /** A sentence of which nothing is looked at has no test. */
    private static void lookAtSentence() {
        if (sentences > 0 && checks == checksAhead) {
            check("a test", "none", "one at least");
        }
    }

    /** Goes on with a new object, and the same rules, if the one at hand has not so many calls left. */
    private void makeRoom(int more) {
        if (calls + more > MOST_CALLS) {
            tongue = new DialogueTongue();
            calls = 0;
            for (int i = 0; i < ruleTexts.size(); i++) {
                int[] numbers = ruleNumbers.get(i);
                feed(ruleTexts.get(i));
                learn(numbers[0], numbers[1], numbers[2]);
            }
        }
    }

    /** How many calls put a text on the tape, and make a rule or a run of it. */
    private static int callsOf(String text) {
        return text.length() / 20 + 4;
    }

    private int learn(int state, int delay, int next) {
        calls++;
        return tongue.rule(state, delay, next);
    }

    /** Puts a text on the tape, in steps of twenty bytes. */
    void tape(String text) {
        makeRoom(callsOf(text));
        feed(text);
    }

    private void feed(String text) {
        for (int at = 0; at < text.length(); at += 20) {
            // The last twenty bytes of a full tape overlap those ahead, because 4096 is no multiple of 20.
            if (at + 20 > MOST_TAPE) {
                at = MOST_TAPE - 20;
                calls++;
                check("end", tongue.end(at), true);
            }
            calls++;
            check("feed", tongue.feed(four(text, at), four(text, at + 4), four(text, at + 8), four(text, at + 12),
                four(text, at + 16)), true);
        }
        calls++;
        check("end", tongue.end(text.length()), true);
    }

    private static int four(String text, int at) {
        int number = 0;
        for (int i = at; i < at + 4; i++) {
            number = number << 8 | (i < text.length() ? text.charAt(i) : 0);
        }
        return number;
    }

    int rule(int state, String pattern, String answer, int delay, int next) {
        tape(pattern + "\0" + answer);
        int number = learn(state, delay, next);
        if (number >= 0) {
            ruleTexts.add(pattern + "\0" + answer);
            ruleNumbers.add(new int[] {state, delay, next});
        }
        return number;
    }

    void clear() {
        calls++;
        tongue.clear();
        ruleTexts.clear();
        ruleNumbers.clear();
    }

    int run(String script) {
        return run(script, 50000);
    }

    int run(String script, int fuel) {
        tape(script);
        calls++;
        return tongue.run(fuel);
    }

    String out() {
        StringBuilder text = new StringBuilder();
        int size = tongue.out();
        for (int i = 0; i < size; i++) {
            text.append((char) tongue.outAt(i));
        }
        calls += size + 1;
        return text.toString();
    }

    String told() {
        return toldFrom(0);
    }

    /** The transcript's last bytes, at most so many. */
    String toldEnd(int most) {
        return toldFrom(Math.max(0, tongue.told() - most));
    }

    private String toldFrom(int first) {
        StringBuilder text = new StringBuilder();
        int size = tongue.told();
        for (int i = first; i < size; i++) {
            text.append((char) tongue.toldAt(i));
        }
        calls += size - first + 1;
        return text.toString();
    }

    /** Runs a script on this object, whose code and result are told. */
    Talk gives(int code, String result, String script) {
        makeRoom(callsOf(script) + callsOfLooking(result) + 3);
        int got = run(script);
        String due = code + " " + result.length() + " " + ends(result);
        check(script, got + " " + tongue.out() + " " + outEnds(), due);
        calls++;
        check("live behind " + script, tongue.live(), 0);
        return this;
    }

    private static int callsOfLooking(String text) {
        return Math.min(text.length(), 2 * END_BYTES);
    }

    private static String ends(String text) {
        int size = text.length();
        return size <= 2 * END_BYTES ? text : text.substring(0, END_BYTES) + text.substring(size - END_BYTES);
    }

    private String outEnds() {
        StringBuilder text = new StringBuilder();
        int size = tongue.out();
        for (int i = 0; i < size; i++) {
            if (i < END_BYTES || i >= size - END_BYTES) {
                text.append((char) tongue.outAt(i));
                calls++;
            }
        }
        calls += 2;
        return text.toString();
    }

    Talk fine(String result, String script) {
        return gives(0, result, script);
    }

    Talk fails(String message, String script) {
        return gives(1, message, script);
    }

    /** A script that fails within a catch with this message, and what the script behind the catch gives then. */
    Talk refuses(String message, String script, String result, String behind) {
        fails(message, script);
        return fine(result, "catch {" + script + "}; " + behind);
    }

    /** Runs a script with just the fuel that it costs, and with one less. */
    Talk costs(int fuel, String script) {
        run(script, 1000);
        calls++;
        check("fuel of " + script, 1000 - tongue.fuel(), fuel);
        if (fuel > 0) {
            calls += 2;
            check("too little fuel for " + script, run(script, fuel - 1), 5);
            check("result without fuel of " + script, tongue.out(), 0);
            check("fuel behind code 5", tongue.fuel(), 0);
        }
        return this;
    }

    Talk tells(String transcript, String script) {
        makeRoom(callsOf(script) + transcript.length() + 1);
        run(script);
        check("transcript of " + script, told(), transcript);
        return this;
    }

    static boolean outThrows(DialogueTongue tongue, int i) {
        try {
            tongue.outAt(i);
            return false;
        } catch (NoSuchElementException e) {
            return true;
        }
    }

    static boolean toldThrows(DialogueTongue tongue, int i) {
        try {
            tongue.toldAt(i);
            return false;
        } catch (NoSuchElementException e) {
            return true;
        }
    }

    /** A text as a word of a script that stands for exactly these bytes. */
    static String word(String text) {
        StringBuilder escaped = new StringBuilder("\"");
        for (int i = 0; i < text.length(); i++) {
            escaped.append(String.format("\\x%02x", (int) text.charAt(i)));
        }
        return escaped.append('"').toString();
    }

    static void check(String what, Object got, Object due) {
        checks++;
        if (!got.equals(due)) {
            wrong++;
            System.out.println((sentence.isEmpty() ? "" : "[" + sentence + "]\n  ") + show(what)
                + "\n    answered " + show(got.toString()) + "\n    due is   " + show(due.toString()));
        }
    }

    private static String show(String text) {
        StringBuilder shown = new StringBuilder();
        for (int i = 0; i < text.length() && i < 400; i++) {
            char c = text.charAt(i);
            shown.append(c < 32 || c > 126 ? String.format("<%d>", (int) c) : String.valueOf(c));
        }
        return shown.toString();
    }

    /** Ends a test: exit code 1 if something was wrong. */
    static void finish() {
        lookAtSentence();
        System.out.println((sentences == 0 ? "" : sentences + " sentences, ") + checks + " answers looked at, " + wrong + " wrong");
        if (wrong > 0 || checks == 0) {
            System.exit(1);
        }
    }
}
