/** The boundary cases of the promises, and what later calls answer behind a call that was refused. */
public final class EdgeFaceTest {
    private static final int LOWEST = Integer.MIN_VALUE;
    private static final int HIGHEST = Integer.MAX_VALUE;
    private static final int NONE = DialogueTongue.NONE;

    public static void main(String[] args) {
        manyCalls();
        newObject();
        feedFull();
        feedOrder();
        endOutside();
        endInside();
        ruleText();
        ruleNumbers();
        ruleFull();
        ruleTape();
        clearAll();
        clearedTexts();
        fuelOutside();
        fuelEdges();
        runTape();
        runAnew();
        outBytes();
        outOutside();
        toldBytes();
        toldOutside();
        fuelLeft();
        clockAtEnd();
        rulesThere();
        nothingLive();
        Talk.finish();
    }

    private static void manyCalls() {
        Talk.about("An object is used for at most 512 calls after it has been made");
        DialogueTongue tongue = new DialogueTongue();
        int code = 0;
        for (int i = 0; i < 127; i++) {
            Talk.check("feed", tongue.feed(0x696e6372, 0x20620000, 0, 0, 0), true);
            Talk.check("end", tongue.end(6), true);
            code += tongue.run(i);
            Talk.check("out", tongue.out(), i == 0 ? 0 : 1);
        }
        Talk.check("codes", code, 5);
        Talk.check("feed", tongue.feed(0x61667465, 0x72203700, 0, 0, 0), true);
        Talk.check("end", tongue.end(7), true);
        Talk.check("run", tongue.run(1), 0);
        Talk.check("call 512", tongue.clock(), 7L);
    }

    private static void newObject() {
        Talk.about("No rules, no run; the result is empty, the tape too.");
        DialogueTongue tongue = new DialogueTongue();
        Talk.check("rules", tongue.rules(), 0);
        Talk.check("out", tongue.out(), 0);
        Talk.check("outAt(0)", Talk.outThrows(tongue, 0), true);
        Talk.check("told", tongue.told(), 0);
        Talk.check("toldAt(0)", Talk.toldThrows(tongue, 0), true);
        Talk.check("fuel", tongue.fuel(), 0);
        Talk.check("clock", tongue.clock(), 0L);
        Talk.check("live", tongue.live(), 0);
        Talk.check("end(1)", tongue.end(1), false);
        Talk.check("end(0)", tongue.end(0), true);
        Talk.check("no pattern on the tape", tongue.rule(0, 0, 0), NONE);
        Talk.check("no script on the tape", tongue.run(0), 0);
    }

    /** Feeds so many times twenty blanks. */
    private static void feedBlanks(DialogueTongue tongue, int times) {
        for (int i = 0; i < times; i++) {
            Talk.check("feed " + i, tongue.feed(0x20202020, 0x20202020, 0x20202020, 0x20202020, 0x20202020), true);
        }
    }

    private static void feedFull() {
        Talk.about("false, changing nothing, when it would have more than 4096.");
        DialogueTongue tongue = new DialogueTongue();
        feedBlanks(tongue, 204);
        Talk.check("up to 4100", tongue.feed(0x61616161, 0, 0, 0, 0), false);
        Talk.check("4081 bytes", tongue.end(4081), false);
        Talk.check("4077 bytes", tongue.end(4077), true);
        Talk.check("up to 4097", tongue.feed(0x61616161, 0, 0, 0, 0), false);
        Talk.check("4078 bytes", tongue.end(4078), false);
        Talk.check("4076 bytes", tongue.end(4076), true);
        Talk.check("up to 4096", tongue.feed(0x65727220, 0x20202020, 0x20202020, 0x20202020, 0x2020207a), true);
        Talk.check("up to 4116", tongue.feed(0x61616161, 0, 0, 0, 0), false);
        Talk.check("4097 bytes", tongue.end(4097), false);
        Talk.check("4096 bytes", tongue.end(4096), true);
        Talk.check("run", tongue.run(9), 1);
        Talk.check("no such command: err", tongue.out(), 20);
        feedBlanks(tongue, 204);
        Talk.check("full again", tongue.feed(0, 0, 0, 0, 0), false);
    }

    private static void feedOrder() {
        Talk talk = Talk.about("Appends twenty bytes to the tape, of each number the highest first");
        DialogueTongue tongue = talk.tongue;
        Talk.check("feed", tongue.feed(0x6c697374, 0x20800102, 0xff7f8081, 0x030405fe, 0xfdfcfb06), true);
        Talk.check("twenty bytes", tongue.end(21), false);
        Talk.check("feed", tongue.feed(0x2061200e, 0x7aff0000, 0, 0, 0), true);
        Talk.check("forty bytes", tongue.end(41), false);
        Talk.check("end", tongue.end(26), true);
        Talk.check("run", tongue.run(9), 0);
        Talk.check("bytes", talk.out(), "\u0080\1\2\u00ff\u007f\u0080\u0081\3\4\5\u00fe\u00fd\u00fc\u00fb\6 a \16z\u00ff");
    }

    private static void endOutside() {
        Talk talk = Talk.about("end: false, changing nothing, when it has not so many, or n is below 0.");
        DialogueTongue tongue = talk.tongue;
        for (int n : new int[] {1, -1, LOWEST, HIGHEST, 4096}) {
            Talk.check("of an empty tape " + n, tongue.end(n), false);
        }
        Talk.check("end(0) of an empty tape", tongue.end(0), true);
        talk.tape("set a 12345");
        for (int n : new int[] {12, 20, -1, -11, LOWEST, HIGHEST}) {
            Talk.check("end(" + n + ")", tongue.end(n), false);
        }
        Talk.check("run", tongue.run(9), 0);
        Talk.check("all bytes are there", talk.out(), "12345");
    }

    private static void endInside() {
        Talk talk = Talk.about("Of the tape only the first n bytes count");
        DialogueTongue tongue = talk.tongue;
        talk.tape("set a 12345");
        Talk.check("all of them", tongue.end(11), true);
        Talk.check("end(8)", tongue.end(8), true);
        Talk.check("what goes is gone", tongue.end(9), false);
        Talk.check("feed comes behind", tongue.feed(0x78780000, 0, 0, 0, 0), true);
        Talk.check("end(28)", tongue.end(28), true);
        Talk.check("end(10)", tongue.end(10), true);
        Talk.check("run", tongue.run(9), 0);
        Talk.check("result", talk.out(), "12xx");
        talk.tape("set a 12345");
        Talk.check("end(0)", tongue.end(0), true);
        Talk.check("nothing is left", tongue.end(1), false);
        Talk.check("run", tongue.run(0), 0);
        Talk.check("result", talk.out(), "");
    }

    private static void ruleText() {
        Talk talk = Talk.about("the tape is a pattern, a byte 0 (the first), and an answer, each at most 200 bytes; NONE when it isn't so");
        String most = "x".repeat(200);
        talk.tape("abc");
        Talk.check("without a byte 0", talk.tongue.rule(0, 0, 0), NONE);
        Talk.check("an empty tape", talk.tongue.rule(0, 0, 0), NONE);
        Talk.check("a pattern of 201", talk.rule(0, most + "x", "a", 0, 0), NONE);
        Talk.check("an answer of 201", talk.rule(0, "a", most + "x", 0, 0), NONE);
        Talk.check("an answer of 201 with a byte 0", talk.rule(0, "a", "\0" + most, 0, 0), NONE);
        talk.tape(most + "x");
        Talk.check("201 bytes without a byte 0", talk.tongue.rule(0, 0, 0), NONE);
        Talk.check("none is there", talk.tongue.rules(), 0);
        Talk.check("both of 200", talk.rule(0, most, "a" + most.substring(1), 0, 0), 0);
        Talk.check("both empty", talk.rule(0, "", "", 0, 0), 1);
        Talk.check("a byte 0 in the answer", talk.rule(0, "z", "a\0b\0", 0, 0), 2);
        talk.tells("\1" + most + "\n\2\2a" + most.substring(1), "spawn; send " + most + "\\n; expect n {}");
        talk.tells("\1z\n\2\2a\0b\0", "spawn; send z\\n; expect n {}").tells("\1" + most + "x\n\2", "spawn; send " + most + "x\\n; expect n {}");
    }

    private static void ruleNumbers() {
        Talk talk = Talk.about("a state 0 .. 31, a delay 0 .. 1000 ticks, the next state; NONE when a number is not as said");
        int number = 0;
        for (int edge : new int[] {0, 31}) {
            Talk.check("state " + edge, talk.rule(edge, "s" + edge, "a", 0, 0), number);
            Talk.check("next " + edge, talk.rule(0, "n" + edge, "b", 0, edge), number + 1);
            number += 2;
        }
        Talk.check("delay 0", talk.rule(0, "d0", "c", 0, 0), 4);
        Talk.check("delay 1000", talk.rule(31, "d1000", "d", 1000, 31), 5);
        for (int beyond : new int[] {-1, 32, LOWEST, HIGHEST, 256}) {
            Talk.check("state " + beyond, talk.rule(beyond, "a", "a", 0, 0), NONE);
            Talk.check("next " + beyond, talk.rule(0, "a", "a", 0, beyond), NONE);
        }
        for (int beyond : new int[] {-1, 1001, LOWEST, HIGHEST}) {
            Talk.check("delay " + beyond, talk.rule(0, "a", "a", beyond, 0), NONE);
        }
        Talk.check("rules", talk.tongue.rules(), 6);
        talk.fine("bd 1000", "spawn; set timeout 1000; send n31\\nd1000\\n; expect d {}; list $expect_out [clock]");
        talk.tells("\1a\n", "spawn; send a\\n; expect a {}")
            .tells("\1n31\nd1000\ns31\ns0\n\2b\2a\2a", "spawn; send n31\\nd1000\\ns31\\ns0\\n; expect aa {}");
    }

    private static void ruleFull() {
        Talk talk = Talk.about("its number, from 0; NONE when 64 are there");
        for (int i = 0; i < 64; i++) {
            Talk.check("rule", talk.rule(0, "r" + i, "a" + i + ".", 0, 0), i);
        }
        Talk.check("one more", talk.rule(0, "", "b", 0, 0), NONE);
        Talk.check("its tape is gone", talk.tongue.end(1), false);
        Talk.check("rules", talk.tongue.rules(), 64);
        talk.tells("\1r63\nr0\n\2a63.\2a0.", "spawn; send r63\\nr0\\n; expect n {}");
    }

    private static void ruleTape() {
        Talk talk = Talk.about("the tape (empty then, also with NONE)");
        Talk.check("rule", talk.rule(0, "a", "b", 0, 0), 0);
        Talk.check("empty behind a rule", talk.tongue.end(1), false);
        Talk.check("NONE", talk.rule(32, "a", "b", 0, 0), NONE);
        Talk.check("empty behind NONE by a number", talk.tongue.end(1), false);
        talk.tape("abc");
        Talk.check("NONE", talk.tongue.rule(0, 0, 0), NONE);
        Talk.check("empty behind NONE by its text", talk.tongue.end(1), false);
        Talk.check("the next number", talk.rule(0, "c", "d", 0, 0), 1);
        talk.tells("\1c\na\n\2d\2b", "spawn; send c\\na\\n; expect n {}");
    }

    private static void clearAll() {
        Talk talk = Talk.about("clear: All rules go.");
        talk.clear();
        Talk.check("none go", talk.tongue.rules(), 0);
        for (int i = 0; i < 64; i++) {
            talk.rule(0, "", "old", 0, 0);
        }
        talk.run("puts a; set a 1");
        talk.tape("\0new");
        talk.clear();
        Talk.check("rules", talk.tongue.rules(), 0);
        Talk.check("the result stays", talk.out(), "1");
        Talk.check("the transcript stays", talk.told(), "\3a\n");
        Talk.check("the tape stays", talk.tongue.rule(0, 0, 0), 0);
        talk.run("spawn; expect new {}");
        Talk.check("the first of the new ones", talk.told(), "\2new");
        talk.clear();
        talk.tells("", "spawn; expect new {}");
        for (int i = 0; i < 64; i++) {
            Talk.check("full again", talk.rule(0, "", "", 0, 0), i);
        }
    }

    private static void clearedTexts() {
        Talk talk = Talk.about("All rules go (and their texts with them).");
        talk.rule(0, "abc", "old answer", 9, 9);
        talk.clear();
        Talk.check("rule", talk.rule(0, "x", "new", 0, 0), 0);
        talk.tells("\1abcx\nabc\nx\n\2new", "spawn; send abcx\\nabc\\nx\\n; expect @ {}")
            .tells("\1x\nx\n\2new\2new", "spawn; send x\\nx\\n; expect @ {}");
    }

    private static void fuelOutside() {
        Talk talk = Talk.about("run: NONE, changing nothing else, for another number of fuel.");
        talk.rule(0, "", "hi", 0, 0);
        for (int fuel : new int[] {-1, 50001, LOWEST, HIGHEST, -50000}) {
            talk.run("spawn; expect hi {}; after 3; puts a; set a xyz", 100);
            talk.tape("after 5; puts b; set a 2");
            Talk.check("run(" + fuel + ")", talk.tongue.run(fuel), NONE);
            Talk.check("the tape is empty", talk.tongue.end(1), false);
            Talk.check("result", talk.out(), "xyz");
            Talk.check("transcript", talk.told(), "\2hi\3a\n");
            Talk.check("fuel", talk.tongue.fuel(), 95);
            Talk.check("clock", talk.tongue.clock(), 3L);
            Talk.check("rules", talk.tongue.rules(), 1);
            Talk.check("live", talk.tongue.live(), 0);
        }
        talk.fine("2", "set a 2");
        DialogueTongue tongue = new DialogueTongue();
        Talk.check("of a new object", tongue.run(-1), NONE);
        Talk.check("fuel of a new object", tongue.fuel(), 0);
        Talk.check("out of a new object", tongue.out(), 0);
    }

    private static void fuelEdges() {
        Talk talk = Talk.about("run with so much fuel (0 .. 50000)");
        Talk.check("0", talk.run("set a 1", 0), 5);
        Talk.check("nothing needs 0", talk.run("", 0), 0);
        Talk.check("1", talk.run("set a 1", 1), 0);
        Talk.check("50000", talk.run("set a 1", 50000), 0);
        Talk.check("left of 50000", talk.tongue.fuel(), 49999);
        Talk.check("49999 rounds", talk.run("foreach a {} {}; while {1} {}", 50000), 5);
        Talk.check("left", talk.tongue.fuel(), 0);
        String loop = "for {set i 0} {$i < 16665} {incr i} {list}; ";
        Talk.check("all of 50000", talk.run(loop + "list; list", 50000), 0);
        Talk.check("none is left", talk.tongue.fuel(), 0);
        Talk.check("more than 50000", talk.run(loop + "list; list; list", 50000), 5);
    }

    private static void runTape() {
        Talk talk = Talk.about("The tape (empty then, also with NONE) is run");
        talk.fine("1", "set a 1");
        Talk.check("empty behind a run", talk.tongue.end(1), false);
        talk.fails("missing close-brace", "set a {");
        Talk.check("empty behind an error", talk.tongue.end(1), false);
        talk.run("set a 1", 0);
        Talk.check("empty behind code 5", talk.tongue.end(1), false);
        Talk.check("an empty tape", talk.tongue.run(0), 0);
        Talk.check("its result", talk.tongue.out(), 0);
    }

    private static void runAnew() {
        Talk talk = Talk.about("with no variables and procedures, no peer, an empty transcript");
        talk.fine("5", "set a 5").fine("0", "info exists a").fine("", "proc f {} {}").fine("", "info procs").fails("no such command: f", "f");
        talk.fine("", "spawn").fails("no peer", "send a").fails("no peer", "expect a {}");
        talk.tells("\3a\n", "puts a").tells("", "").fine("", "after 9").fine("0", "clock");
        talk.fine("", "proc f {} {global a; upvar a b; set a 1; while 1 {g}}; proc g {} {error x}; catch f; list")
            .fine("0 0", "list [info level] [info exists a]");
        Talk.check("fuel ends within procedures", talk.run("proc f {} {set v 1; f}; proc g {} {catch f; g}; g", 40), 5);
        talk.fine("0 0 {}", "list [info level] [info exists v] [info procs]");
    }

    private static void outBytes() {
        Talk talk = Talk.about("out: How many bytes the latest run's result has; outAt: Byte i of it, 0 .. 255.");
        talk.run("set a \\x00\\x01\\x7f\\x80\\xfe\\xff");
        int[] due = {0, 1, 127, 128, 254, 255};
        Talk.check("out", talk.tongue.out(), due.length);
        for (int i = 0; i < due.length; i++) {
            Talk.check("outAt(" + i + ")", talk.tongue.outAt(i), due[i]);
        }
        talk.run("set a [string repeat b 1023]c");
        Talk.check("the longest", talk.tongue.out(), 1024);
        Talk.check("its last byte", talk.tongue.outAt(1023), (int) 'c');
        Talk.check("none behind", Talk.outThrows(talk.tongue, 1024), true);
        talk.run("set a 1; list");
        Talk.check("the latest run's", talk.tongue.out(), 0);
        talk.run("error abc");
        Talk.check("of an error", talk.tongue.out(), 3);
        talk.run("set a 1; set b 2", 1);
        Talk.check("of code 5", talk.tongue.out(), 0);
    }

    private static void outOutside() {
        Talk talk = Talk.about("outAt: NoSuchElementException: there is none.");
        talk.run("set a xyz");
        for (int i : new int[] {-1, 3, 4, 1023, 1024, LOWEST, HIGHEST}) {
            Talk.check("outAt(" + i + ")", Talk.outThrows(talk.tongue, i), true);
        }
        Talk.check("as it was", talk.out(), "xyz");
        talk.run("set a 1; while 1 {}", 9);
        Talk.check("outAt(0) behind code 5", Talk.outThrows(talk.tongue, 0), true);
        talk.run("list");
        Talk.check("outAt(0) of an empty one", Talk.outThrows(talk.tongue, 0), true);
    }

    private static void toldBytes() {
        Talk talk = Talk.about("told: How many bytes the latest run's transcript has; toldAt: Byte i of it.");
        talk.run("puts \\x00\\xff\\x80");
        int[] due = {3, 0, 255, 128, 10};
        Talk.check("told", talk.tongue.told(), due.length);
        for (int i = 0; i < due.length; i++) {
            Talk.check("toldAt(" + i + ")", talk.tongue.toldAt(i), due[i]);
        }
        talk.run("set v [string repeat x 1022]; for {set i 0} {$i < 32} {incr i} {puts $v}");
        Talk.check("the longest", talk.tongue.told(), 32768);
        Talk.check("its last byte", talk.tongue.toldAt(32767), 10);
        Talk.check("none behind", Talk.toldThrows(talk.tongue, 32768), true);
        talk.tells("\3a\n", "puts a; nosuch").tells("", "nosuch");
        talk.run("puts a; puts b; puts c", 2);
        Talk.check("of code 5", talk.told(), "\3a\n\3b\n");
    }

    private static void toldOutside() {
        Talk talk = Talk.about("toldAt: NoSuchElementException: there is none.");
        talk.run("puts a; set a bcdef");
        for (int i : new int[] {-1, 3, 4, 32767, 32768, LOWEST, HIGHEST}) {
            Talk.check("toldAt(" + i + ")", Talk.toldThrows(talk.tongue, i), true);
        }
        Talk.check("as it was", talk.told(), "\3a\n");
        talk.run("set a bcdef");
        Talk.check("toldAt(0) of an empty one", Talk.toldThrows(talk.tongue, 0), true);
    }

    private static void fuelLeft() {
        Talk talk = Talk.about("How much fuel the latest run left (0 before any, and behind code 5).");
        Talk.check("before any", new DialogueTongue().fuel(), 0);
        talk.run("", 7);
        Talk.check("all of it", talk.tongue.fuel(), 7);
        talk.run("list; nosuch; list", 7);
        Talk.check("behind an error", talk.tongue.fuel(), 5);
        Talk.check("just enough", talk.run("list; list", 2), 0);
        Talk.check("none of it", talk.tongue.fuel(), 0);
        Talk.check("not enough", talk.run("list; list; list", 2), 5);
        Talk.check("behind code 5", talk.tongue.fuel(), 0);
    }

    private static void clockAtEnd() {
        Talk talk = Talk.about("clock: The time when it ended (0 before any).");
        Talk.check("before any", new DialogueTongue().clock(), 0L);
        talk.run("after 4; nosuch");
        Talk.check("behind an error", talk.tongue.clock(), 4L);
        talk.run("after 4; after 5; after 6", 2);
        Talk.check("behind code 5", talk.tongue.clock(), 9L);
        talk.run("set a 1");
        Talk.check("of a run that took none", talk.tongue.clock(), 0L);
        talk.run("while 1 {after 1000000}", 50000);
        Talk.check("more than an int", talk.tongue.clock(), 24999000000L);
    }

    private static void rulesThere() {
        Talk talk = Talk.about("rules: How many rules there are.");
        for (int i = 1; i <= 64; i++) {
            talk.rule(0, "a", "b", 0, 0);
            Talk.check("rules", talk.tongue.rules(), i);
        }
        talk.rule(0, "a", "b", 0, 0);
        Talk.check("a refused one", talk.tongue.rules(), 64);
        talk.run("spawn");
        Talk.check("behind a run", talk.tongue.rules(), 64);
        talk.clear();
        Talk.check("behind clear", talk.tongue.rules(), 0);
    }

    private static void nothingLive() {
        Talk talk = Talk.about("live: How many texts and codes lie in memory but the latest run's result (0 between calls; rules and "
            + "the tape don't count).");
        Talk.check("of a new object", talk.tongue.live(), 0);
        talk.rule(0, "", "abc", 0, 0);
        Talk.check("with a rule", talk.tongue.live(), 0);
        talk.tape("spawn; proc f a {set b [eval {set c [f $a]}]}; catch {f 1}; f 2");
        Talk.check("with a tape", talk.tongue.live(), 0);
        talk.tongue.run(1000);
        Talk.check("behind an error deep within", talk.tongue.live(), 0);
        talk.run("spawn; send abc; set x [string repeat a 900]; proc f a {expr {1 + [eval {list $a [f $a]}]}}; f 2", 30);
        Talk.check("behind code 5 deep within", talk.tongue.live(), 0);
        talk.tape("set a 1");
        talk.tongue.run(-1);
        Talk.check("behind NONE", talk.tongue.live(), 0);
        Talk.outThrows(talk.tongue, -1);
        Talk.check("behind a throw", talk.tongue.live(), 0);
    }
}
