/** Variables, procedures, levels, and the commands that run scripts, with their codes. */
public final class FlowTest {
    public static void main(String[] args) {
        variables();
        choices();
        loops();
        switches();
        procedures();
        returns();
        levels();
        catches();
        Talk.finish();
    }

    private static void variables() {
        Talk talk = new Talk();
        talk.fine("5", "set a 5; set a").fine("6", "set a 5; set a 6").fails("no such variable: a", "set a");
        talk.fails("wrong number of words: set", "set").fails("wrong number of words: set", "set a b c");
        talk.fine("", "set a 1; unset a").fails("no such variable: a", "set a 1; unset a; set a");
        talk.fails("no such variable: a", "unset a").fails("wrong number of words: unset", "unset");
        talk.fine("1", "incr a").fine("-3", "set a 4; incr a -7").fine("18", "set a 0x10; incr a +2");
        talk.fine("-9223372036854775808", "set a 9223372036854775807; incr a");
        talk.fails("not an integer: x", "set a x; incr a y").fails("not an integer: y", "incr a y");
        talk.fails("not an integer: 9223372036854775808", "incr a 9223372036854775808");
        talk.fine("-9223372036854775808", "incr a -9223372036854775808").fails("not an integer: ", "incr a {}");
        talk.fails("not an integer: 1 ", "incr a {1 }").fails("not an integer: 0X1", "incr a 0X1");
        talk.fails("not an integer: 0x", "incr a 0x").fine("-1", "incr a 0xffffFFFFffffFFFF");
        talk.fails("not an integer: 0x10000000000000000", "incr a 0x10000000000000000").fine("1", "incr a -0xFFFFFFFFFFFFFFFF");
        talk.fine("7", "incr a 0000000000000000000000000007").fails("not an integer: +-1", "incr a +-1");
        talk.fine("abc", "append a; append a ab c").fine("1", "append a; info exists a").fine("1", "lappend a; info exists a");
        talk.fine("a {b c} {}", "lappend l a {b c}; lappend l {}").fine("a  b  c", "set l {a  b }; lappend l c");
        talk.fails("bad list", "set l \\{; lappend l").fails("wrong number of words: append", "append");
        talk.fails("no such variable: ", "set {} 1").fails("no such variable: ", "append {} x").fails("no such variable: ", "incr {}");
        talk.fails("not an integer: q", "incr {} q").fails("no such variable: ", "foreach {} {a} {}").fine("", "foreach {} {} {}");
        talk.fails("no such variable: ", "catch {} {}").fine("0", "info exists {}").fails("no such variable: ", "set {}");
        talk.fails("no such variable: ", "upvar 0 a {}").fine("", "upvar 0 {} a").fails("no such variable: ", "upvar 0 {} a; set a 1");
        talk.fails("no such variable: a", "upvar 0 {} a; set a").fails("no such variable: ", "proc f {{{} 1}} {}; f");
        talk.fails("no such command: length", "length a").fails("no such command: exists", "exists a").fails("bad option: set", "string set");
        talk.fails("no such command: pet", "pet a 1").fails("no such command: se", "se a 1").fails("no such command: Set", "Set a 1");
        talk.fails("bad option: x", "info x y z").fails("wrong number of words: info", "info");
        talk.fails("wrong number of words: info", "info exists").fails("wrong number of words: info", "info level 1");
    }

    private static void choices() {
        Talk talk = new Talk();
        talk.fine("a", "if 1 {set x a}").fine("", "if 0 {set x a}").fine("a", "if 1 then {set x a}");
        talk.fine("b", "if 0 {set x a} else {set x b}").fine("b", "if 0 {set x a} {set x b}");
        talk.fine("c", "if 0 {set x a} elseif 0 then {set x b} elseif 1 {set x c} else {set x d}");
        talk.fine("d", "if 0 {set x a} elseif 0 {set x b} {set x d}").fine("", "if 0 {set x a} elseif 0 {set x b}");
        String wrong = "wrong number of words: if";
        talk.fails(wrong, "if").fails(wrong, "if 1").fails(wrong, "if 1 then").fails(wrong, "if 0 a else").fails(wrong, "if 0 a elseif");
        talk.fails(wrong, "if 0 a elseif 1").fails(wrong, "if 0 a elseif 1 then").fails(wrong, "if 0 a b c").fails(wrong, "if 0 a else b c");
        talk.tells("", "if {[puts a] eq {}} b else").fails("not an integer: x", "if {\"x\"} {}").fails("bad expression: ", "if {} {}");
        talk.fine("", "if 1 {}").fine("a", "if 0x0 {} {set x a}").fails("no such command: else", "if 1 else x");
        talk.fine("7", "proc f {} {if {[return 7]} {}; set x 8}; f");
        talk.fine("2", "if {[list x y z] eq {}} then {set a 1} elseif {[list] eq {}} then {set a 2} else {set a 3}");
        talk.fine("3", "if {[list] ne {}} {set a 1} elseif {[llength [list u v w x y]] == 4} {set a 2} else {set a 3}");
    }

    private static void loops() {
        Talk talk = new Talk();
        talk.fine("5", "set i 0; while {$i < 5} {incr i}; set i").fine("", "set i 0; while {$i < 5} {incr i}");
        talk.fine("3", "set i 0; while 1 {incr i; if {$i == 3} break}; set i");
        talk.fine("1 2 4", "set i 0; while {$i < 4} {incr i; if {$i == 3} continue; lappend l $i}; set l");
        talk.fails("boo", "while 1 {error boo}").fine("x", "while 1 {return x}").fails("not an integer: a", "while {{a}} {}");
        talk.fine("0 1 2", "for {set i 0} {$i < 3} {incr i} {lappend l $i}; set l").fine("", "for {} 0 {} {}");
        talk.fine("0 1 3", "for {set i 0} {$i < 4} {incr i} {if {$i == 2} continue; lappend l $i}; set l");
        talk.fine("1", "set i 0; for {} 1 {incr i; break} {}; set i").fails("continue outside of a loop", "for {} 1 {continue} {}");
        talk.fails("boo", "for {} 1 {error boo} {}").fine("x", "for {} 1 {return x} {}").fails("break outside of a loop", "for {break} 1 {} {}");
        talk.fine("3", "catch {for {break} 1 {} {}}").fine("4", "catch {for {continue} 1 {} {}}");
        talk.fine("3", "catch {while {[break]} {}}").fine("4", "catch {for {} {[continue]} {} {}}").fine("2", "catch {while {[return]} {}}");
        talk.fine("a-b c-", "foreach x {a {b c}} {append s $x-}; set s").fine("", "foreach x {a b} {}").fine("b", "foreach x {a b} {}; set x");
        talk.fine("a", "foreach x {a b} {if {$x eq {b}} break; lappend l $x}; set l").fails("bad list", "foreach x \\{ {}");
        talk.fine("a c", "foreach x {a b c} {if {$x eq {b}} continue; lappend l $x}; set l").fails("boo", "foreach x a {error boo}");
        talk.fails("wrong number of words: foreach", "foreach x a").fails("wrong number of words: for", "for a b c");
        talk.fails("wrong number of words: while", "while 1").fails("wrong number of words: break", "break x");
        talk.fails("break outside of a loop", "break").fails("continue outside of a loop", "eval continue");
    }

    private static void switches() {
        Talk talk = new Talk();
        talk.fine("1", "switch a {a {set x 1} b {set x 2}}").fine("2", "switch b a {set x 1} b {set x 2}").fine("", "switch c a {set x 1}");
        talk.fine("3", "switch c {a {set x 1} default {set x 3}}").fine("1", "switch default {default {set x 1} c {set x 3}}");
        talk.fine("", "switch c {default {set x 1} d {set x 3}}").fine("4", "switch a {a - b - c {set x 4}}");
        talk.fails("no body: a", "switch a {a - b -}").fine("", "switch c {a - b -}").fails("no body: default", "switch c {default -}");
        talk.fails("extra pattern without body", "switch a {a b c}").fails("extra pattern without body", "switch a a b c");
        talk.fails("extra pattern without body", "switch -glob a").fails("extra pattern without body", "switch -exact a b");
        talk.fails("wrong number of words: switch", "switch a").fails("bad list", "switch a \\{").fine("", "switch a {}");
        talk.fine("1", "switch -glob abc {a* {set x 1}}").fine("", "switch -exact abc {a* {set x 1}}").fine("", "switch abc a* {set x 1}");
        talk.fine("1", "switch -exact a {a {set x 1}}").fine("1", "switch -glob -glob {-glob {set x 1}}");
        talk.fine("2", "switch -foo -foo {set x 2}").fine("3", "catch {switch a a break}");
    }

    private static void procedures() {
        Talk talk = new Talk();
        talk.fine("", "proc f {} {}").fine("", "proc f {} {}; f").fine("1 7 {}", "proc f {a {b 7} args} {list $a $b $args}; f 1");
        talk.fine("1 2 {3 {4 5}}", "proc f {a {b 7} args} {list $a $b $args}; f 1 2 3 {4 5}");
        talk.fails("wrong number of words: f", "proc f {a {b 7} args} {}; f").fails("wrong number of words: f", "proc f a {}; f 1 2");
        talk.fine("5", "proc f {{a 1} b} {set b}; f 4 5").fails("wrong number of words: f", "proc f {{a 1} b} {}; f 4");
        talk.fine("x", "proc f {args a} {set args}; f x y").fine("{}", "proc f {{args 5}} {list $args}; f");
        talk.fine("2", "proc f {a a} {set a}; f 1 2").fails("can't be changed: set", "proc set x y").fails("can't be changed: set", "proc set \\{ y");
        talk.fails("bad list", "proc f \\{ {}").fails("bad argument: a b c", "proc f {{a b c}} {}").fails("bad argument: ", "proc f {{}} {}");
        talk.fails("bad list", "proc f {\\{} {}").fails("bad argument: ", "proc f {{} \\{} {}").fails("wrong number of words: proc", "proc f {}");
        talk.fine("2", "proc f {} {proc f {} {set x 2}; set x 1}; f; f").fine("1", "proc f {} {proc f {} {set x 2}; set x 1}; f");
        talk.fine("{} a b c", "proc b {} {}; proc a {} {}; proc c {} {}; proc {} {} {}; info procs").fine("", "info procs");
        talk.fails("break outside of a loop", "proc f {} break; while 1 f").fails("continue outside of a loop", "proc f {} continue; while 1 f");
        talk.fails("no such variable: x", "proc f {} {set x}; set x 1; f").fails("no such variable: y", "proc f {} {set y 1}; f; set y");
        talk.fine("1", "proc f {a {b 2}} {set a}; proc g {} {}; f 1").fine("1 2", "proc f {a {b 2}} {list $a $b}; foreach x {u v w} {}; f 1");
        talk.fine("0", "proc f {{{} 1}} {}; catch f; info level").fine("0", "proc f {} {set r [info exists a]; set a 1; set r}; f; f");
        talk.fine("120", "proc f n {if {$n < 2} {return 1}; expr {$n * [f [expr {$n - 1}]]}}; f 5");
    }

    private static void returns() {
        Talk talk = new Talk();
        talk.fine("x", "return x; set y 1").fine("", "return").fine("-code", "return -code").gives(1, "x", "return -code error x");
        talk.gives(1, "", "return -code 1").gives(2, "", "return -code return").gives(3, "", "return -code break").gives(0, "x", "return -code +0 x");
        talk.fails("bad code: 5", "return -code 5").fails("bad code: x", "return -code x y").fails("bad code: -1", "return -code -1");
        talk.fails("wrong number of words: return", "return a b").fails("wrong number of words: return", "return a b c");
        talk.fails("wrong number of words: return", "return -code 1 b c").fine("2", "catch {return -code 3 x}");
        talk.fine("5", "proc f {} {return 5; set x 6}; f").fine("1 x", "proc f {} {return -code 1 x}; list [catch f m] $m");
        talk.fine("x", "proc f {} {return -code return x}; proc g {} {f; set y 1}; g").fine("x", "proc f {} {return -code 2 x}; f; set y 1");
        talk.fine("2", "proc f {} {return -code 2 x}; catch f").fine("3", "proc f {} {return -code break}; catch f")
            .fine("4", "proc f {} {return -code 4}; catch f");
        talk.fine("1", "proc f {} {return -code break}; set i 0; while 1 {incr i; f}; set i");
        talk.fails("break outside of a loop", "proc f {} {return -code break}; f")
            .fails("continue outside of a loop", "proc f {} {return -code 4}; f");
        talk.fine("7", "proc f {} {eval {return 7}; set x 8}; f").fine("7", "proc f {} {uplevel {return 7}; set x 8}; f");
        talk.fine("7", "proc f {} {while 1 {return 7}; set x 8}; f").gives(3, "x", "eval {return -code 3 x}")
            .gives(4, "", "while 1 {return -code 4}");
        talk.fine("7", "proc f {} {set x [return 7]; set x 8}; f").fine("7", "proc f {} {catch {return -code 3}; return 7}; f");
    }

    private static void levels() {
        Talk talk = new Talk();
        talk.fine("6", "proc f {} {upvar x y; incr y}; set x 5; f; set x").fine("1", "proc f {} {upvar x y; set y 1}; f; set x");
        talk.fine("1 2", "proc f {} {upvar a x b y; list $x $y}; set a 1; set b 2; f")
            .fine("7", "proc f {} {upvar #0 a x; set x 7}; proc g {} f; g; set a");
        talk.fine("3", "proc f {} {upvar 2 a x; set x 3}; proc g {} f; g; set a").fine("5", "set a 5; upvar 0 a b; set b");
        talk.fails("no such level: 1", "upvar a b").fails("no such level: 2", "proc f {} {upvar 2 a b}; f")
            .fails("no such level: #2", "proc f {} {upvar #2 a b}; f");
        talk.fails("no such level: x", "proc f {} {upvar x a b}; f").fails("no such level: -1", "proc f {} {upvar -1 a b}; f");
        talk.fails("wrong number of words: upvar", "upvar 1").fails("wrong number of words: upvar", "upvar");
        talk.fails("variable is there: y", "proc f {} {set y 1; upvar x y}; f").fine("", "set a 1; upvar 0 a a");
        talk.fine("2", "proc f {} {upvar a z; upvar b z; set z}; set a 1; set b 2; f")
            .fine("9", "proc f {} {upvar a y; upvar 0 y z; set z 9}; f; set a");
        talk.fine("2", "set c 2; upvar 0 a b; upvar 0 b d; upvar 0 c b; list; set b")
            .fails("no such variable: d", "set c 2; upvar 0 a b; upvar 0 b d; upvar 0 c b; set d");
        talk.fine("4", "upvar 0 b a; upvar 0 c b; set a 4; set c").fine("", "upvar 0 b a; upvar 0 a b");
        talk.fine("0 1", "proc f {} {upvar x y; set r [info exists y]; set y 1; list $r [info exists y]}; f");
        talk.fine("0 5", "proc f {} {upvar x y; unset y; set r [info exists y]; set y 5; set r}; set x 1; list [f] $x");
        talk.fails("no such variable: y", "proc f {} {upvar x y; unset y}; f").fails("no such variable: y", "proc f {} {upvar x y; set y}; f");
        talk.fine("8", "proc f {} {global a; set a 8}; f; set a").fine("", "global a").fails("no such variable: a", "global a; set a");
        talk.fails("variable is there: a", "proc f a {global a}; f 1").fails("wrong number of words: global", "global");
        talk.fine("1 2", "proc f {} {global a b; list $a $b}; set a 1; set b 2; f");
        talk.fine("5z", "proc up {} {upvar x y; incr y; uplevel {append x z}}; set x 4; up; set x");
        talk.fine("3", "proc f {} {uplevel 1 set x 3}; f; set x").fine("3", "proc f {} {uplevel #0 {set x 3}}; proc g {} f; g; set x");
        talk.fine("4", "proc f {} {uplevel 0 {set x 4}; set x}; f").fails("no such level: 1", "uplevel {set x 1}")
            .fails("no such level: 3", "uplevel 3 x");
        talk.fails("no such command: 1", "proc f {} {uplevel 1}; f").fails("no such command: -1", "proc f {} {uplevel -1 x}; f");
        talk.fine("", "proc f {} {uplevel # x}; f").fails("no such level: 99999999999999999999", "uplevel 99999999999999999999 x");
        talk.fine("0 1 2 0",
            "proc f {} {list [info level] [g] [uplevel {info level}]}; proc g {} {info level}; set r [f]; list [info level] [lindex $r 0] [lindex $r 1] [lindex $r 2]");
        talk.fine("1", "proc f {} {uplevel #0 g}; proc g {} {info level}; proc h {} f; h")
            .fine("5", "proc f {} {uplevel #0 g}; proc g {} {upvar x y; set y 5}; f; set x");
        talk.fails("no such level: 1", "proc f {} {uplevel #0 {upvar x y}}; f").fine("a b c", "eval list a {b c}")
            .fails("wrong number of words: eval", "eval");
        talk.fails("wrong number of words: uplevel", "uplevel");
    }

    private static void catches() {
        Talk talk = new Talk();
        talk.fine("0 5", "list [catch {set a 5} m] $m").fine("1 boo", "list [catch {error boo} m] $m").fine("2 x", "list [catch {return x} m] $m");
        talk.fine("3 {}", "list [catch break m] $m").fine("4 {}", "list [catch continue m] $m").fine("0", "catch {}");
        talk.fine("1 {no such command: x}", "list [catch x m] $m").fails("boo", "error boo").fails("wrong number of words: error", "error");
        talk.fails("wrong number of words: catch", "catch").fails("wrong number of words: catch", "catch a b c");
        talk.fine("too deep", "proc f {} {catch f m; set m}; set n 0; proc g {} {global n; incr n; g}; catch g m; set m");
        Talk.check("fuel ends a catch", talk.run("catch {while 1 {}}; set x 1", 20), 5);
    }
}
