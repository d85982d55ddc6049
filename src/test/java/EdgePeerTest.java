/** The boundary cases of THE PEER, of expect, of time, and of the transcript. */
public final class EdgePeerTest {
    public static void main(String[] args) {
        noPeer();
        afters();
        clocks();
        spawns();
        lines();
        longLines();
        firstRule();
        noRule();
        orderOfAnswers();
        manyAnswers();
        timeouts();
        waits();
        dueAnswers();
        patternsInOrder();
        shortestBeginning();
        emptyBeginning();
        expectOut();
        expectOutRefused();
        lateBodies();
        timeoutWord();
        oddWords();
        fullBuffer();
        withoutBody();
        things();
        fullTranscript();
        Talk.finish();
    }

    /** A peer that answers a line of letters with an answer behind so many ticks: a0 behind 0, a3 behind 3. */
    private static Talk peer(String sentence) {
        Talk talk = Talk.about(sentence);
        talk.rule(0, "a0", "zero.", 0, 0);
        talk.rule(0, "a3", "three.", 3, 0);
        talk.rule(0, "a9", "nine.", 9, 0);
        talk.rule(0, "a10", "ten.", 10, 0);
        talk.rule(0, "a11", "eleven.", 11, 0);
        talk.rule(0, "none", "", 1, 0);
        return talk;
    }

    private static void noPeer() {
        Talk talk = Talk.about("send x: to the peer (without one: no peer); expect (without a peer: no peer)");
        talk.refuses("no peer", "send a", "0", "clock").refuses("no peer", "expect timeout {set x 1}", "0 0", "list [clock] [info exists x]")
            .fails("no peer", "expect {} {}").tells("", "catch {send a}; catch {expect {} {}}").fine("", "spawn; send a")
            .fine("", "spawn; expect {} {}").fails("no peer", "send a; spawn");
        talk.fails("wrong number of words: send", "send").fails("wrong number of words: send", "spawn; send a b")
            .fails("wrong number of words: spawn", "spawn a").fine("", "catch {send a}; spawn; send a");
    }

    private static void afters() {
        Talk talk = peer("after n: time goes on by n (0 .. 1000000, the nearest; answers that come in it are received by an expect "
            + "behind); empty.");
        talk.fine("", "after 5").fine("0", "after 0; clock").fine("1", "after 1; clock").fine("0", "after -1; clock")
            .fine("0", "after -9223372036854775808; clock").fine("1000000", "after 1000000; clock").fine("1000000", "after 1000001; clock")
            .fine("1000000", "after 9223372036854775807; clock").fine("999999", "after 999999; clock");
        talk.fails("not an integer: x", "after x").fails("not an integer: ", "after {}").fails("wrong number of words: after", "after")
            .fails("wrong number of words: after", "after 1 2").fine("12", "after 5; after 7; clock").tells("\1a3\n", "spawn; send a3\\n; after 5")
            .tells("\1a3\n\2three.", "spawn; send a3\\n; after 5; set timeout 0; expect @ {}");
        talk.fine("5 three.", "spawn; send a3\\n; after 5; set timeout 0; expect three. {}; list [clock] $expect_out")
            .fine("3", "spawn; send a3\\n; after 2; expect three. {}; clock").fine("0", "catch {after x}; clock");
    }

    private static void clocks() {
        Talk talk = Talk.about("clock: the time, 0 when the run begins.");
        talk.fine("0", "clock").fine("3", "after 3; clock").fine("0", "clock").fails("wrong number of words: clock", "clock 1")
            .fine("3000000000", "for {set i 0} {$i < 3000} {incr i} {after 1000000}; clock").fine("0", "spawn; clock");
        Talk.check("clock behind that", talk.tongue.clock(), 0L);
    }

    private static void spawns() {
        Talk talk = Talk.about("spawn: it is in state 0, what it sent, has still to send and got is forgotten, and it gets an empty line.");
        talk.rule(0, "", "hello.", 2, 0);
        talk.rule(0, "go", "gone.", 0, 5);
        talk.rule(5, "", "wrong.", 0, 5);
        talk.rule(5, "go", "again.", 0, 5);
        talk.fine("2 hello.", "spawn; expect hello. {}; list [clock] $expect_out")
            .tells("\1go\n\2gone.\2hello.", "spawn; send go\\n; expect hello. {}")
            .tells("\1go\n\2hello.", "spawn; send go\\n; spawn; expect hello. {}")
            .tells("\1g\1o\n\2hello.", "spawn; send g; spawn; send o\\n; expect hello. {}");
        talk.tells("\1go\n\1go\n\2gone.\2hello.", "spawn; send go\\n; spawn; send go\\n; expect hello. {}")
            .fine("t", "spawn; expect hel {}; spawn; set timeout 1; expect lo {set x f} timeout {set x t}").fine("", "spawn")
            .fine("4", "spawn; expect hello. {}; spawn; expect hello. {}; clock")
            .tells("\2hello.", "spawn; after 1; spawn; expect hello. {}; expect @ {}");
    }

    private static void lines() {
        Talk talk = peer("send: its bytes go to the peer; each newline ends a line that it gets (without it)");
        talk.tells("\1a0", "spawn; send a0; expect @ {}").tells("\1a\0010\1\n\2zero.", "spawn; send a; send 0; send \\n; expect @ {}")
            .tells("\1a0\na0\n\2zero.\2zero.", "spawn; send a0\\na0\\n; expect @ {}")
            .tells("\1\n\na0\n\2zero.", "spawn; send \\n\\na0\\n; expect @ {}").tells("\1a0\r\n", "spawn; send a0\\r\\n; expect @ {}")
            .tells("\1a0\na\0010\n\2zero.\2zero.", "spawn; send a0\\na; send 0\\n; expect @ {}");
        talk.tells("\1", "spawn; send {}; expect @ {}").tells("\1 a0\n", "spawn; send \" a0\\n\"; expect @ {}");
    }

    private static void longLines() {
        Talk talk = Talk.about("of a line the first 1024 bytes");
        talk.rule(0, "*ab", "fit", 0, 0);
        talk.rule(0, "*", "unfit", 0, 0);
        talk.fine("fit", "set x [string repeat a 1023]; spawn; expect unfit {}; send $x; send b\\n; expect fit {set expect_out}")
            .fine("unfit", "set x [string repeat a 1024]; spawn; expect unfit {}; send $x; send b\\n; expect fit {set expect_out}")
            .fine("fit", "set x [string repeat a 1023]; spawn; expect unfit {}; send $x; send bcccc; send $x; send \\n; expect fit {set expect_out}");
        talk.fine("fit", "set x [string repeat a 1024]; spawn; expect unfit {}; send $x; send $x; send \\nab\\n; expect unfit {}; expect fit {set expect_out}");
    }

    private static void firstRule() {
        Talk talk = Talk.about("A line: the first rule of its state whose pattern fits: the state is the next one, and the answer comes "
            + "behind the delay");
        talk.rule(1, "a", "other.", 0, 0);
        talk.rule(0, "a", "one.", 1, 31);
        talk.rule(0, "a*", "two.", 1, 0);
        talk.rule(31, "a", "three.", 1000, 0);
        talk.tells("\1a\n\2one.", "spawn; send a\\n; expect @ {}").tells("\1ab\n\2two.", "spawn; send ab\\n; expect @ {}")
            .tells("\1a\na\na\n\2one.\2one.\2three.", "spawn; set timeout 1000; send a\\na\\na\\n; expect @ {}")
            .tells("\1a\na\na\n\2one.\2one.", "spawn; set timeout 999; send a\\na\\na\\n; expect @ {}")
            .tells("\1a\nab\n\2one.", "spawn; send a\\nab\\n; expect @ {}");
    }

    private static void noRule() {
        Talk talk = Talk.about("Else nothing.");
        talk.tells("\1a\n", "spawn; send a\\n; expect @ {}");
        talk.rule(0, "a", "one.", 0, 0);
        talk.rule(3, "*", "never.", 0, 0);
        talk.tells("\1b\n", "spawn; send b\\n; expect @ {}").tells("\1b\na\n\2one.", "spawn; send b\\na\\n; expect @ {}");
    }

    private static void orderOfAnswers() {
        Talk talk = peer("answers come in the order of their times, of one time as they were given");
        talk.tells("\1a3\na0\n\2zero.\2three.", "spawn; send a3\\na0\\n; expect @ {}")
            .tells("\1a3\na3\n\2three.\2three.", "spawn; send a3\\na3\\n; expect @ {}")
            .tells("\1a3\n\1a0\n\2three.\2zero.", "spawn; send a3\\n; after 3; send a0\\n; expect @ {}")
            .tells("\1a3\n\1a0\n\2zero.\2three.", "spawn; send a3\\n; after 2; send a0\\n; expect @ {}");
        talk.tells("\1a9\na3\na0\na10\n\2zero.\2three.\2nine.\2ten.", "spawn; send a9\\na3\\na0\\na10\\n; expect @ {}")
            .tells("\1a10\n\1a9\n\2ten.\2nine.", "spawn; send a10\\n; after 1; send a9\\n; expect @ {}")
            .tells("\1a0\n\1a3\n\2zero.\2three.", "spawn; send a0\\n; after 9; send a3\\n; expect @ {}")
            .tells("\1a10\n\1a3\n\2ten.\2three.", "spawn; send a10\\n; after 20; send a3\\n; expect @ {}");
    }

    private static void manyAnswers() {
        Talk talk = Talk.about("at most 64 are to come, another one is lost, the state is the next one all the same");
        talk.rule(0, "x", "y", 1, 1);
        talk.rule(1, "x", "z", 1, 0);
        talk.rule(1, "q", "odd", 0, 1);
        talk.rule(0, "q", "even", 0, 0);
        for (int times = 63; times <= 66; times++) {
            String script = "spawn; for {set i 0} {$i < " + times + "} {incr i} {send x\\n}; set timeout 1; expect @ {}; ";
            String all = "yz".repeat(33).substring(0, Math.min(times, 64));
            talk.fine(all + ".", script + "expect [string repeat ? " + all.length() + "] {set r $expect_out}; expect ? {append r +} timeout {append r .}");
            talk.fine(times % 2 == 0 ? "even" : "odd", script + "send q\\n; set timeout 0; expect odd {set x odd} even {set x even}");
        }
        String received = "spawn; for {set i 0} {$i < 70} {incr i} {send x\\n}; expect [string repeat ? 64] {}; ";
        talk.fine("yz", received + "send x\\nx\\n; expect ?? {set expect_out}");
    }

    private static void timeouts() {
        Talk talk = Talk.about("the variable timeout of level 0 (of a link its other one's value; 10 when it is not there, or no "
            + "integer; else 0 .. 1000000, the nearest) says how many ticks it waits");
        String[][] values = {{"0", "0"}, {"1", "1"}, {"-1", "0"}, {"-9223372036854775808", "0"}, {"1000000", "1000000"}, {"1000001", "1000000"},
            {"9223372036854775807", "1000000"}, {"9223372036854775808", "10"}, {"x", "10"}, {"{}", "10"}, {"0x10", "16"}, {"{ 5}", "10"},
            {"+7", "7"}};
        for (String[] value : values) {
            talk.fine(value[1], "spawn; set timeout " + value[0] + "; expect @ {}; clock")
                .fine(value[1], "proc f {} {expect @ {}; clock}; spawn; set timeout " + value[0] + "; f")
                .fine(value[1], "spawn; set t " + value[0] + "; upvar 0 t timeout; expect @ {}; clock");
        }
        talk.fine("10", "spawn; expect @ {}; clock").fine("10", "proc f {} {set timeout 3; expect @ {}; clock}; spawn; f")
            .fine("10", "spawn; upvar 0 t timeout; expect @ {}; clock").fine("10", "spawn; set timeout 3; unset timeout; expect @ {}; clock")
            .fine("13", "spawn; after 3; expect @ {}; clock").fine("4", "proc f {} {global timeout; set timeout 4; expect @ {}; clock}; spawn; f");
    }

    private static void waits() {
        Talk talk = peer("time goes on to the next answer that comes within the wait (its last tick, too; its bytes are on the "
            + "transcript and in the buffer)");
        talk.fine("10 ten.", "spawn; send a10\\n; expect ten. {list [clock] $expect_out}")
            .fine("10 late", "spawn; send a11\\n; expect eleven. {list [clock] $expect_out} timeout {list [clock] late}")
            .fine("3 three.", "spawn; set timeout 3; send a3\\n; expect three. {list [clock] $expect_out}")
            .fine("2 late", "spawn; set timeout 2; send a3\\n; expect three. {} timeout {list [clock] late}");
        talk.fine("0 zero.", "spawn; set timeout 0; send a0\\n; expect zero. {list [clock] $expect_out}")
            .tells("\1a3\na9\na11\n\2three.\2nine.", "spawn; send a3\\na9\\na11\\n; expect @ {}")
            .tells("\1a3\na9\n\2three.", "spawn; send a3\\na9\\n; expect three {}")
            .fine("13 ten.", "spawn; after 3; send a10\\n; expect ten. {list [clock] $expect_out}")
            .tells("\1none\n\2", "spawn; send none\\n; expect @ {}");
        talk.fine("11 eleven.", "spawn; send a11\\n; expect @ {}; expect eleven. {list [clock] $expect_out}");
    }

    private static void dueAnswers() {
        Talk talk = peer("(no time goes on to one that was due)");
        talk.fine("50 three.nine.", "spawn; send a3\\na9\\n; after 50; expect nine. {list [clock] $expect_out}")
            .fine("50 three.", "spawn; set timeout 0; send a3\\na9\\n; after 50; expect three. {list [clock] $expect_out}")
            .tells("\1a3\na9\n\2three.", "spawn; send a3\\na9\\n; after 50; expect three. {}")
            .fine("60", "spawn; send a3\\n; after 50; expect @ {}; clock").fine("0", "spawn; send a0\\n; expect zero. {}; clock");
    }

    private static void patternsInOrder() {
        Talk talk = peer("Patterns in order: one fits, if p with a * put ahead fits any beginning of the buffer");
        talk.fine("2", "spawn; send a0\\n; expect x {set r 1} ero {set r 2} zero {set r 3}")
            .fine("1", "spawn; send a0\\n; expect . {set r 1} z {set r 2}")
            .fine("2 zero.th", "spawn; send a0\\na3\\n; expect x {set r 1} th {set r 2} ree {set r 3}; list $r $expect_out")
            .fine("2 0", "spawn; send a3\\na0\\n; expect th {set r 1} ze {set r 2}; list $r [clock]")
            .fine("1", "spawn; send a0\\n; expect zero. {set r 1} zero. {set r 2}");
        talk.fine("3", "spawn; send a0\\n; expect \\[ab] {set r 1} z??e {set r 2} {[a-z]o} {set r 3}")
            .fine("1", "spawn; expect {} {set r 1} * {set r 2}");
    }

    private static void shortestBeginning() {
        Talk talk = Talk.about("taken is the shortest such beginning");
        talk.rule(0, "go", "ab1ab2ab3*", 0, 0);
        String[][] takings = {{"ab", "ab"}, {"a*b", "ab"}, {"b?", "ab1"}, {"a*3", "ab1ab2ab3"}, {"1*b", "ab1ab"}, {"ab*ab", "ab1ab"}, {"?", "a"},
            {"???", "ab1"}, {"[0-9]", "ab1"}, {"[2-9]", "ab1ab2"}, {"*", ""}, {"b*", "ab"}, {"*b", "ab"}, {"\\*", "ab1ab2ab3*"},
            {"3\\*", "ab1ab2ab3*"}, {"a?a", "none"}, {"b3?", "ab1ab2ab3*"}, {"*b*2*", "ab1ab2"}, {"ab1ab2ab3?", "ab1ab2ab3*"},
            {"ab1ab2ab3??", "none"}};
        for (String[] taking : takings) {
            talk.fine(taking[1], "spawn; send go\\n; expect b3xx {} timeout {}; expect " + Talk.word(taking[0]) + " {set expect_out} timeout {set x none}");
        }
        String take = "{lappend r $expect_out}; ";
        talk.fine("ab 1ab 2 ab3*", "spawn; send go\\n; expect b " + take + "expect b " + take + "expect ? " + take + "expect \\\\* " + take);
    }

    private static void emptyBeginning() {
        Talk talk = peer("any beginning of the buffer (the empty one, too)");
        talk.fine("0 {}", "spawn; send a3\\n; expect {} {list [clock] $expect_out}")
            .fine("0 {}", "spawn; send a0\\n; expect * {list [clock] $expect_out}").tells("\1a0\n", "spawn; send a0\\n; expect {} {}")
            .fine("zero.", "spawn; send a0\\n; expect {} {}; expect zero. {set expect_out}")
            .fine("z", "spawn; send a0\\n; expect ?* {set expect_out}").fine("b", "spawn; send a0\\n; expect z {set r a} {} {set r b}");
    }

    private static void expectOut() {
        Talk talk = peer("it becomes expect_out of level 0, and the body runs");
        talk.fine("zero", "proc f {} {expect zero {}}; spawn; send a0\\n; f; set expect_out")
            .fine("0", "proc f {} {expect zero {info exists expect_out}}; spawn; send a0\\n; f")
            .fine("zero zero", "upvar 0 e expect_out; spawn; send a0\\n; expect zero {list $e $expect_out}").fine("3", "spawn; expect {} {set x 3}")
            .fails("boo", "spawn; expect {} {error boo}").fine("r", "spawn; expect {} {return r}; set x 1");
        talk.fine("1", "spawn; foreach i {1 2} {expect {} break}; set i").fine("4", "catch {spawn; expect {} continue}")
            .fine("1", "proc f {} {set v 1; expect {} {set v}}; spawn; f");
    }

    private static void expectOutRefused() {
        Talk talk = peer("(if that can't be: its error, nothing taken)");
        String most = "spawn; send a0\\n; for {set i 1} {$i < 128} {incr i} {set v$i 1}; ";
        talk.fails("too many variables", most + "expect zero {}").fine("zero.", most + "catch {expect zero {}}; unset v1; expect . {set expect_out}")
            .fine("zero.", "spawn; send a0\\n; upvar 0 {} expect_out; catch {expect zero {}}; upvar 0 e expect_out; expect . {set e}")
            .fails("no such variable: ", "spawn; send a0\\n; upvar 0 {} expect_out; expect zero {}");
        talk.tells("\1a0\n\2zero.", most + "catch {expect zero {puts a}}").fine("0", most + "catch {expect zero {after 5} timeout {after 6}}; clock");
    }

    private static void lateBodies() {
        Talk talk = peer("if none comes, time goes on to the end of the wait, and the body of the word timeout runs, if there is one");
        talk.fine("10 late", "spawn; expect @ {} timeout {list [clock] late}").fine("10", "spawn; expect @ {set x 1}; clock")
            .fine("10", "spawn; send a3\\n; expect @ {}; clock").fine("0 late", "spawn; set timeout 0; expect @ {} timeout {list [clock] late}")
            .fine("1", "spawn; foreach i {1 2} {expect timeout break}; set i").fails("boo", "spawn; expect timeout {error boo}")
            .fine("0", "spawn; expect timeout {}; info exists expect_out");
        talk.fine("1000010", "spawn; after 10; set timeout 1000000; expect @ {}; clock");
    }

    private static void timeoutWord() {
        Talk talk = Talk.about("(timeout is no pattern, it may stand alone; several: the first.)");
        talk.rule(0, "go", "timeout", 0, 0);
        talk.fine("10", "spawn; expect timeout {clock}").fine("b", "spawn; send go\\n; expect timeout {set r b}")
            .fine("c", "spawn; send go\\n; expect timeout {set r b} timeou? {set r c}").fine("a", "spawn; expect timeout {set r a} timeout {set r b}")
            .fine("a", "spawn; expect timeout {set r a} @ {set r c} timeout {set r b}")
            .fine("c", "spawn; send go\\n; expect timeout {set r b} {[t]imeout} {set r c}");
        talk.fine("a", "spawn; expect @ {} \"time[format out]\" {set r a}").fine("", "spawn; expect Timeout {set r a}");
        talk.fine("1", "spawn; expect @ timeout timeout {set x 1}").fine("1", "proc timeout {} {set x 1}; spawn; send go\\n; expect t timeout @ {}");
    }

    private static void oddWords() {
        Talk talk = Talk.about("An odd number of words: wrong number of words: expect.");
        for (String words : new String[] {"", " a", " a {} b", " timeout", " a {} timeout", " a {} b {} c"}) {
            talk.fails("wrong number of words: expect", "expect" + words).fails("wrong number of words: expect", "spawn; expect" + words)
                .fine("0", "spawn; catch {expect" + words + "}; clock");
        }
        talk.fine("", "spawn; expect a {} b {}");
    }

    private static void fullBuffer() {
        Talk talk = Talk.about("Of a buffer of more than 1024 bytes the first ones go.");
        String answer = "abcdefgh".repeat(25);
        talk.rule(0, "x", answer, 0, 0);
        talk.rule(0, "s", "STOP", 0, 0);
        talk.rule(0, "1", "!", 0, 0);
        talk.rule(0, "24", "y".repeat(24), 0, 0);
        String five = "spawn; send x\\nx\\nx\\nx\\nx\\n; ";
        talk.fine("1004 ab", five + "send s\\n; expect STOP {list [string length $expect_out] [string range $expect_out 0 1]}")
            
                
                    
                        
                            .fine("1024 ab",
                                five + "send 24\\n; expect @ {}; expect [string repeat y 24] {list [string length $expect_out] [string range $expect_out 0 1]}");
        talk.fine("1024 bc", five + "send 24\\n1\\n; expect @ {}; expect ! {list [string length $expect_out] [string range $expect_out 0 1]}")
            
                
                    
                        .fine("1024 ab",
                            five + "send x\\n24\\n; expect @ {}; expect [string repeat y 24] {list [string length $expect_out] [string range $expect_out 0 1]}")
            .fine("1024 ef", five + "send x\\nx\\ns\\n; expect @ {}; expect STOP {list [string length $expect_out] [string range $expect_out 0 1]}");
        talk.fine("200", five + "send x\\nx\\n; expect @ {}; expect [string repeat ? 824] {}; expect " + answer + " {string length $expect_out}");
    }

    private static void withoutBody() {
        Talk talk = Talk.about("empty without a body");
        talk.fine("", "spawn; set x 1; expect @ {set x 2}").fine("", "spawn; set x 1; expect {} {}").fine("", "spawn; set x 1; expect timeout {}");
    }

    private static void things() {
        Talk talk = peer("THE TRANSCRIPT: for each thing a byte 1 sent, 2 received, 3 put out, its bytes, perhaps none (put out: and a "
            + "newline).");
        talk.tells("", "spawn").tells("\1", "spawn; send {}").tells("\1a\n", "spawn; send a\\n").tells("\3\n", "puts {}").tells("\3a\n", "puts a")
            .tells("\3a\n\n", "puts a\\n").tells("\1none\n\2", "spawn; send none\\n; expect @ {}").tells("\3\1\2\3\n", "puts \\1\\2\\3")
            .tells("\3a\n\1a0\n\3b\n\2zero.\3c\n", "puts a; spawn; send a0\\n; puts b; expect . {puts c}");
        talk.fine("", "puts a").fine("", "spawn; send a").fails("wrong number of words: puts", "puts")
            .fails("wrong number of words: puts", "puts a b");
    }

    private static void fullTranscript() {
        Talk talk = Talk.about("A thing with which it would have more than 32768 bytes is left out.");
        talk.rule(0, "go", "abc", 0, 0);
        talk.rule(0, "none", "", 0, 0);
        String most = "set v [string repeat x 1022]; for {set i 0} {$i < 31} {incr i} {puts $v}; ";
        String[][] ends = {{"puts $v", "32768"}, {"puts ${v}y", "31744"}, {"puts $v; puts {}", "32768"}, {"puts $v; spawn; send {}", "32768"},
            {"spawn; send $v; send {}", "32768"}, {"spawn; send ${v}y", "32768"}, {"spawn; send ${v}yz", "31744"},
            {"puts [string range $v 1 end]; puts {}", "32767"}, {"puts [string range $v 1 end]; spawn; send {}", "32768"},
            {"puts [string range $v 2 end]; puts {}", "32768"}, {"puts [string range $v 2 end]; puts a", "32766"},
            {"puts [string range $v 2 end]; puts a; puts {}", "32768"}};
        for (String[] end : ends) {
            Talk.check(end[0], talk.run(most + end[0]), 0);
            Talk.check("told of " + end[0], talk.tongue.told(), Integer.parseInt(end[1]));
        }
        talk.run(most + "spawn; send [string range $v 3 end]go\\n; puts {}; puts a; send go\\n; expect abc {puts c}; set expect_out");
        Talk.check("what is left out is done all the same", talk.out(), "abc");
        talk.run(most + "puts [string range $v 8 end]; spawn; send go\\n; expect abc {}");
        Talk.check("answer and all", talk.tongue.told(), 32768);
        talk.run(most + "puts [string range $v 7 end]; spawn; send go\\n; expect abc {}; send {}");
        Talk.check("an answer is left out", talk.tongue.told(), 32766);
        Talk.check("the last thing", talk.tongue.toldAt(32765), 1);
        talk.tells("\3a\n", "puts a");
    }
}
