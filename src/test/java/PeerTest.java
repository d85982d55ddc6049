/** The peer, its time, and the transcript. */
public final class PeerTest {
    public static void main(String[] args) {
        login();
        timeouts();
        buffer();
        orderOfAnswers();
        states();
        errors();
        transcript();
        Talk.finish();
    }

    private static Talk loginPeer() {
        Talk talk = new Talk();
        talk.rule(0, "", "login: ", 2, 0);
        talk.rule(0, "bob", "password: ", 3, 1);
        talk.rule(1, "*", "welcome\n% ", 1, 2);
        return talk;
    }

    private static void login() {
        Talk talk = loginPeer();
        String script = "spawn; expect login: {send bob\\n}; expect password: {send s3\\n}; expect {% } {set r ok} timeout {set r late}; ";
        talk.fine("ok 6 { welcome\n% }", script + "list $r [clock] $expect_out");
        talk.tells("\2login: \1bob\n\2password: \1s3\n\2welcome\n% ", script);
        Talk.check("clock", talk.tongue.clock(), 6L);
        talk.tells("\1b\1ob\1\n\2login: \2password: ", "spawn; send b; send ob; send \\n; expect password {}");
        talk.tells("\2login: \1eve\n", "spawn; expect login {send eve\\n}; expect password {}");
        talk.fine("2", "spawn; expect login {}; clock").fine("login", "spawn; expect login {set expect_out}").fine("", "spawn; expect login {}");
    }

    private static void timeouts() {
        Talk talk = loginPeer();
        talk.fine("late 1", "spawn; set timeout 1; expect login: {set r ok} timeout {set r late}; list $r [clock]");
        talk.fine("ok 2", "spawn; set timeout 2; expect login: {set r ok} timeout {set r late}; list $r [clock]");
        talk.fine("late 10", "spawn; expect nothing {set r ok} timeout {set r late}; list $r [clock]");
        talk.fine("10", "spawn; set timeout x; expect nothing {}; clock").fine("0", "spawn; set timeout -5; expect nothing {}; clock");
        talk.fine("1000000", "spawn; set timeout 99999999999; expect nothing {}; clock")
            .fine("3", "spawn; set t 3; upvar 0 t timeout; expect nothing {}; clock");
        talk.fine("10", "proc f {} {set timeout 4; expect nothing {}; clock}; spawn; f")
            .fine("a", "spawn; expect timeout {set x a} timeout {set x b}");
        talk.fine("", "spawn; expect [set x nothing] {set x a}").fine("ok", "spawn; send [set x bob]; spawn; expect login {set r ok}");
        talk.fine("", "spawn; expect nothing {set x a}").fine("5 ok", "spawn; after 5; set timeout 0; expect login {set r ok}; list [clock] $r");
        talk.fine("5 late", "spawn; after 5; set timeout 0; expect nothing {set r ok} timeout {set r late}; list [clock] $r")
            .tells("\2login: ", "spawn; after 5; set timeout 0; expect nothing {}");
        talk.fine("0", "spawn; after 0; clock").fine("0", "after -3; clock").fine("1000000", "after 1000001; clock")
            .fails("not an integer: x", "after x").fine("", "after 3").fine("0", "clock");
        talk.tells("", "spawn; after 100").fine("break 2", "set r {}; spawn; while 1 {expect login break; set r x}; list break[set r] [clock]");
        talk.fails("wrong number of words: clock", "clock x").fails("wrong number of words: after", "after")
            .fails("wrong number of words: spawn", "spawn x");
    }

    private static void buffer() {
        Talk talk = loginPeer();
        talk.fine("log in {: }", "spawn; expect log {set a $expect_out}; expect in {set b $expect_out}; expect {: } {set c $expect_out}; list $a $b $c");
        talk.fine("{} 0", "spawn; expect * {}; list $expect_out [clock]").fine("{} 0", "spawn; expect {} {}; list $expect_out [clock]");
        talk.fine("l 2", "spawn; expect ? {}; list $expect_out [clock]").fine("login", "spawn; expect g*n {}; set expect_out")
            .fine("login:", "spawn; expect {[m-o]*:*} {}; set expect_out");
        talk.fine("b", "spawn; expect nothing {set r a} log {set r b} login {set r c}")
            .fine("a 2", "spawn; set x x; expect login {set r a} l {set r b}; list $r [clock]");
        talk.fails("no such variable: expect_out", "spawn; expect x {} timeout {set expect_out}")
            .fine("login", "proc f {} {expect login {}}; spawn; f; set expect_out");
        talk.fine("login: ", "spawn; upvar 0 {} expect_out; catch {expect login {}} m; unset m; upvar 0 o expect_out; expect {: } {}; set o");
        talk.fails("no such variable: ", "spawn; upvar 0 {} expect_out; expect login {}").fails("boo", "spawn; expect login {error boo}");
        Talk loud = new Talk();
        loud.rule(0, "x", "y".repeat(199) + "z", 0, 0);
        String six = "spawn; send " + "x\\n".repeat(6) + "; expect nothing {}; ";
        loud.fine("24", six + "expect z {string length $expect_out}").fine("1024", six + "expect z?*z?*z?*z?*z?*z {string length $expect_out}");
    }

    private static void orderOfAnswers() {
        Talk talk = new Talk();
        talk.rule(0, "slow", "s", 5, 0);
        talk.rule(0, "fast", "f", 1, 0);
        talk.rule(0, "also", "a", 5, 0);
        talk.rule(0, "none", "", 2, 0);
        talk.fine("fsa 5", "spawn; send slow\\nfast\\nalso\\n; expect a {}; list $expect_out [clock]");
        talk.tells("\1slow\nfast\n\2f\2s", "spawn; send slow\\nfast\\n; expect nothing {}")
            .tells("\1none\n\2", "spawn; send none\\n; expect nothing {}");
        talk.tells("\1slow\n\1fast\n", "spawn; send slow\\n; spawn; send fast\\n; spawn; expect nothing {}");
        talk.fine("f 1", "spawn; send slow; spawn; send fast\\n; expect f {}; list $expect_out [clock]");
        talk.fine("all none", "spawn; for {set i 0} {$i < 70} {incr i} {send fast\\n}; expect [string repeat f 64] {set r all}; "
            + "expect f {set s more} timeout {set s none}; list $r $s");
        talk.fine("fsa 6", "spawn; send slow\\n; after 1; send also\\n; send fast\\n; expect a {}; list $expect_out [clock]");
        talk.fine("5", "spawn; send slow\\n; after 1; send also\\n; send fast\\n; expect s {clock}");
        talk.fine("asf", "spawn; after 0; send also\\nslow\\n; after 4; send fast\\n; expect f {set expect_out}");
        talk.fine("s 7", "spawn; send slow\\n; after 7; expect s {}; list $expect_out [clock]");
    }

    private static void states() {
        Talk talk = new Talk();
        talk.rule(0, "a", "one ", 0, 7);
        talk.rule(0, "a", "never ", 0, 0);
        talk.rule(7, "[xy]", "two ", 0, 31);
        talk.rule(31, "", "three ", 0, 0);
        talk.fine("one two three one ", "spawn; send a\\nx\\n\\na\\n; expect {three one } {set expect_out}");
        talk.tells("\1b\nx\n", "spawn; send b\\nx\\n; expect nothing {}").tells("\1a\na\nz\n\2one ", "spawn; send a\\na\\nz\\n; expect nothing {}");
        Talk full = new Talk();
        full.rule(0, "x", "y", 0, 1);
        full.rule(1, "x", "y", 0, 0);
        full.rule(1, "q", "odd", 0, 1);
        full.fine("yyyodd", "spawn; for {set i 0} {$i < 65} {incr i} {send x\\n}; expect {yyy} {}; set timeout 0; expect nothing {}; "
            + "send q\\n; expect {yyyodd} {string range $expect_out end-5 end}");
        Talk line = new Talk();
        line.rule(0, "a*a", "fit", 0, 0);
        line.rule(0, "a*", "unfit", 0, 0);
        line.fine("fit", "set x [string repeat a 1000]; spawn; send $x; send [string repeat a 24]bbb\\n; expect fit {set expect_out}");
        line.fine("unfit", "set x [string repeat a 1000]; spawn; send $x; send [string repeat a 23]bbb\\n; expect fit {set expect_out}");
    }

    private static void errors() {
        Talk talk = loginPeer();
        talk.fails("no peer", "send x").fails("no peer", "expect x {}").fails("wrong number of words: expect", "expect")
            .fails("wrong number of words: expect", "expect x");
        talk.fails("wrong number of words: expect", "spawn; expect x {} timeout").fails("wrong number of words: send", "send")
            .fails("wrong number of words: puts", "puts a b");
        talk.tells("", "catch {send x}");
    }

    private static void transcript() {
        Talk talk = new Talk();
        talk.tells("\3\n\3a\nb\n", "puts {}; puts a\\nb").tells("\1", "spawn; send {}").fine("", "puts a").fine("", "spawn; send a");
        talk.run("set v [string repeat x 1022]; for {set i 0} {$i < 32} {incr i} {puts $v}");
        Talk.check("the longest transcript", talk.tongue.told(), 32768);
        talk.run("set v [string repeat x 1022]; for {set i 0} {$i < 32} {incr i} {puts $v}; puts {}; spawn; send {}");
        Talk.check("what is too much is left out", talk.tongue.told(), 32768);
        talk.run("set v [string repeat x 1022]; for {set i 0} {$i < 31} {incr i} {puts $v}; puts [string range $v 3 end]; puts aa; puts b; spawn; send {}");
        Talk.check("what fits behind that is told", talk.toldEnd(9).endsWith("x\n\3b\n"), true);
        Talk.check("up to the last byte", talk.tongue.told(), 32768);
        talk.run("set v [string repeat x 1022]; for {set i 0} {$i < 31} {incr i} {puts $v}; puts [string range $v 1 end]; spawn; send {}");
        Talk.check("a byte more", talk.toldEnd(9).endsWith("x\n\1"), true);
    }
}
