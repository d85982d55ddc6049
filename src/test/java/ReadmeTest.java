/** The example of README.md, and what README.md says of it. */
public final class ReadmeTest {
    public static void main(String[] args) {
        DialogueTongue tongue = new DialogueTongue();

        tape(tongue, "\0login: ");
        Talk.check("the first rule", tongue.rule(0, 2, 1), 0);
        tape(tongue, "ann\0welcome\n");
        Talk.check("the second rule", tongue.rule(1, 3, 2), 1);

        tape(tongue, "spawn\n"
            + "expect login: {send ann\\n}\n"
            + "expect welcome {puts \"in at [clock]\"} timeout {error late}\n"
            + "string length $expect_out");
        Talk.check("the code", tongue.run(100), 0);

        Talk.check("the result", text(tongue), "8");
        Talk.check("the transcript", transcript(tongue), "\2login: \1ann\n\2welcome\n\3in at 5\n");
        Talk.check("the time", tongue.clock(), 5L);
        // spawn, two of expect, their bodies (send; clock and puts), and string.
        Talk.check("the fuel", tongue.fuel(), 100 - 7);
        Talk.check("the rules stay", tongue.rules(), 2);
        Talk.check("nothing lies in memory", tongue.live(), 0);
        codes(tongue);
        Talk.finish();
    }

    /** The codes that README.md tells, and that a run begins without what the one ahead had. */
    private static void codes(DialogueTongue tongue) {
        tape(tongue, "set expect_out");
        Talk.check("no variables", tongue.run(100), 1);
        Talk.check("the message", text(tongue), "no such variable: expect_out");
        tape(tongue, "send x");
        Talk.check("no peer", tongue.run(100), 1);
        tape(tongue, "while 1 {}");
        Talk.check("out of fuel", tongue.run(100), 5);
        for (int code = 2; code <= 4; code++) {
            tape(tongue, "return -code " + code);
            Talk.check("a code that is asked for", tongue.run(100), code);
        }
    }

    /** Puts a text of at most 4080 bytes on the empty tape. */
    static void tape(DialogueTongue tongue, String text) {
        int[] four = new int[5];
        for (int from = 0; from < text.length(); from += 20) {
            for (int i = 0; i < 20; i++) {
                int next = from + i < text.length() ? text.charAt(from + i) : 0;
                four[i / 4] = four[i / 4] << 8 | next;
            }
            tongue.feed(four[0], four[1], four[2], four[3], four[4]);
        }
        tongue.end(text.length());
    }

    private static String text(DialogueTongue tongue) {
        StringBuilder text = new StringBuilder();
        for (int i = 0; i < tongue.out(); i++) {
            text.append((char) tongue.outAt(i));
        }
        return text.toString();
    }

    private static String transcript(DialogueTongue tongue) {
        StringBuilder text = new StringBuilder();
        for (int i = 0; i < tongue.told(); i++) {
            text.append((char) tongue.toldAt(i));
        }
        return text.toString();
    }
}
