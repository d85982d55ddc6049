/** What the tests share: an object of DialogueTongue that takes texts, and a count of what was wrong. */
final class Talk {
    private static int checks = 0;
    private static int wrong = 0;

    final DialogueTongue tongue = new DialogueTongue();

    /** Puts a text on the tape, in steps of twenty bytes. */
    void tape(String text) {
        for (int at = 0; at < text.length(); at += 20) {
            check("feed", tongue.feed(four(text, at), four(text, at + 4), four(text, at + 8), four(text, at + 12),
                four(text, at + 16)), true);
        }
        check("end", tongue.end(text.length()), true);
    }

    private static int four(String text, int at) {
        int number = 0;
        for (int i = at; i < at + 4; i++) {
            number = number << 8 | (i < text.length() ? text.charAt(i) : 0);
        }
        return number;
    }

    int rule(int state, String pattern, String answer, int delay, int next) {
        tape(pattern + "\0" + answer);
        return tongue.rule(state, delay, next);
    }

    int run(String script) {
        return run(script, 50000);
    }

    int run(String script, int fuel) {
        tape(script);
        return tongue.run(fuel);
    }

    String out() {
        StringBuilder text = new StringBuilder();
        for (int i = 0; i < tongue.out(); i++) {
            text.append((char) tongue.outAt(i));
        }
        return text.toString();
    }

    String told() {
        StringBuilder text = new StringBuilder();
        for (int i = 0; i < tongue.told(); i++) {
            text.append((char) tongue.toldAt(i));
        }
        return text.toString();
    }

    /** Runs a script on this object, whose code and result are told. */
    Talk gives(int code, String result, String script) {
        int got = run(script);
        check(script, got + " " + out(), code + " " + result);
        check("live", tongue.live(), 0);
        return this;
    }

    Talk fine(String result, String script) {
        return gives(0, result, script);
    }

    Talk fails(String message, String script) {
        return gives(1, message, script);
    }

    /** Runs a script whose cost in fuel is told. */
    Talk costs(int fuel, String script) {
        run(script, 1000);
        check("fuel of " + script, 1000 - tongue.fuel(), fuel);
        return this;
    }

    Talk tells(String transcript, String script) {
        run(script);
        check("transcript of " + script, told(), transcript);
        return this;
    }

    static void check(String what, Object got, Object due) {
        checks++;
        if (!got.equals(due)) {
            wrong++;
            System.out.println(show(what) + "\n    answered " + show(got.toString()) + "\n    due is   " + show(due.toString()));
        }
    }

    private static String show(String text) {
        StringBuilder shown = new StringBuilder();
        for (int i = 0; i < text.length() && i < 400; i++) {
            char c = text.charAt(i);
            shown.append(c < 32 || c > 126 ? String.format("<%d>", (int) c) : String.valueOf(c));
        }
        return shown.toString();
    }

    /** Ends a test: exit code 1 if something was wrong. */
    static void finish() {
        System.out.println(checks + " answers looked at, " + wrong + " wrong");
        if (wrong > 0 || checks == 0) {
            System.exit(1);
        }
    }
}
