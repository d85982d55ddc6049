/** The boundary cases of COMMANDS: integers, variables, bodies, loops, procedures, codes and levels. */
public final class EdgeCommandTest {
    private static final String HIGHEST = "9223372036854775807";
    private static final String LOWEST = "-9223372036854775808";

    public static void main(String[] args) {
        unknownNames();
        oneAtLeast();
        integers();
        hexadecimals();
        writtenIntegers();
        indexes();
        sets();
        unsets();
        increases();
        appends();
        listAppends();
        choices();
        choicesThatDontFit();
        loops();
        loopCodes();
        stepCodes();
        testCodes();
        rounds();
        switchOptions();
        switchBodies();
        switchLists();
        procAnew();
        procArguments();
        procErrors();
        calls();
        manyCalls();
        callCodes();
        returns();
        returnCodes();
        runCodes();
        globals();
        upvars();
        upvarLevels();
        uplevels();
        levelsAlongCallers();
        catches();
        infos();
        Talk.finish();
    }

    private static void unknownNames() {
        Talk talk = Talk.about("A name that is neither of these nor a procedure's: no such command: NAME.");
        talk.fails("no such command: a b", "{a b}").fails("no such command: ", "{}").fails("no such command: SET", "SET a 1")
            .fails("no such command: set ", "{set } a 1").fails("no such command: length", "length a").fails("no such command: exists", "exists a")
            .fails("no such command: timeout", "timeout").fails("no such command: else", "else");
        talk.fails("no such command: f", "f; proc f {} {}").fine("1", "proc f {} {set x 1}; f")
            .refuses("no such command: f", "f", "1", "proc f {} {set x 1}; f");
    }

    private static void oneAtLeast() {
        Talk talk = Talk.about("... any number, also none, but one at least for eval, uplevel, expr, global; Another number of words: "
            + "wrong number of words: NAME");
        for (String name : new String[] {"eval", "uplevel", "expr", "global"}) {
            talk.fails("wrong number of words: " + name, name);
        }
        talk.fine("", "eval {}").fine("0", "expr 0").fine("", "global a").fine("", "uplevel 0 {}").fine("", "list").fine("", "concat")
            .fine("", "append a").fine("", "lappend a").fine("", "linsert {} 0").fine("", "lreplace {} 0 0").fine("a", "format a");
        talk.fails("wrong number of words: f", "proc f {} {}; f 1").fails("wrong number of words: if", "if")
            .fine("wrong number of words: set", "catch {set} m; set m");
    }

    private static void integers() {
        Talk talk = Talk.about("An INTEGER is - or + or nothing, then digits, in 64 bits, without anything else; what is none: not an "
            + "integer: TEXT.");
        String[] good = {"0", "-0", "+0", "7", "+7", "-7", "007", "-007", HIGHEST, "+" + HIGHEST, LOWEST, "000" + HIGHEST, "-000" + LOWEST.substring(1), "0".repeat(900)};
        String[] bad = {"", "-", "+", "--1", "+-1", "-+1", " 1", "1 ", "1\\n", "1a", "a1", "1.0", "1e3", "1_0", "9223372036854775808",
            "+9223372036854775808", "-9223372036854775809", "9".repeat(19), "9".repeat(20), "-" + "9".repeat(30), "10000000000000000000",
            "18446744073709551616", "1/", "1:", "end", "0b1", "1 2"};
        for (String text : good) {
            talk.fine("1", "string is integer \"" + text + "\"");
        }
        for (String text : bad) {
            talk.fine("0", "string is integer \"" + text + "\"").fails("not an integer: " + text.replace("\\n", "\n"), "incr a \"" + text + "\"");
        }
    }

    private static void hexadecimals() {
        Talk talk = Talk.about("or 0x (small) and 1 to 16 hexadecimal digits, small or great (these 64 bits; then the sign)");
        String[] good = {"0x0", "0", "0xf", "15", "0xF", "15", "0xaBcDeF", "11259375", "-0x10", "-16", "+0x10", "16", "0x7fffffffffffffff", HIGHEST,
            "0x8000000000000000", LOWEST, "-0x8000000000000000", LOWEST, "0xffffffffffffffff", "-1", "-0xFFFFFFFFFFFFFFFF", "1", "0x0000000000000001",
            "1", "0x9", "9"};
        for (int i = 0; i < good.length; i += 2) {
            talk.fine(good[i + 1], "incr a " + good[i]);
        }
        for (String text : new String[] {"0x", "-0x", "0X1", "0x00000000000000001", "0x10000000000000000", "0xg", "0x1g", "0x/", "0x:", "0x@", "0x`",
            "0xG", "x1", "00x1", "0x-1", "0x+1", "0x 1", "- 0x1", "0x1 "}) {
            talk.fails("not an integer: " + text, "incr a {" + text + "}");
        }
    }

    private static void writtenIntegers() {
        Talk talk = Talk.about("Integers are written in decimal, without + or 0s ahead.");
        talk.fine("7", "incr a +007").fine("0", "incr a -0").fine("0", "incr a +0x0").fine("-7", "incr a -007").fine("10", "set a 0xA; incr a 0")
            .fine(LOWEST, "set a " + LOWEST + "; incr a 0").fine(HIGHEST, "set a " + HIGHEST + "; incr a 0").fine("-10", "incr a -0x0a");
        talk.fine("10", "expr {+0010}").fine("0", "expr {-0}").fine("100", "expr {10 * 10}").fine("9", "string length [incr a 100000000]")
            .fine("20", "string length [incr a -9000000000000000000]");
    }

    private static void indexes() {
        Talk talk = Talk.about("An INDEX is an integer, or end, or end-INTEGER (the integer without sign; else not an integer: TEXT of "
            + "the whole).");
        talk.fine("b", "lindex {a b c} 1").fine("b", "lindex {a b c} +1").fine("b", "lindex {a b c} 0x1").fine("c", "lindex {a b c} end")
            .fine("c", "lindex {a b c} end-0").fine("a", "lindex {a b c} end-2").fine("", "lindex {a b c} end-3").fine("b", "lindex {a b c} end-0x1")
            .fine("b", "lindex {a b c} end-01");
        talk.fine("", "lindex {a b c} end-" + HIGHEST).fine("", "lindex {a b c} " + LOWEST).fine("", "lindex {a b c} " + HIGHEST)
            .fine("", "lindex {a b c} 4294967296").fine("", "lindex {a b c} 4294967297").fine("", "lindex {a b c} end-4294967296")
            .fine("", "lindex {a b c} -4294967296");
        talk.fails("not an integer: en", "lrange {a b c} en d").fails("not an integer: e", "lrange {a b c} e nd")
            .fails("not an integer: end-", "lrange {a b c} end- 1")
            .fails("not an integer: -", "lrange {a b c} - 1").fails("not an integer: 0x", "lrange {a b c} 0x 1").fine("b", "lrange {a b c} 1 1");
        for (String bad : new String[] {"", "x", "en", "End", "end-", "end+1", "end--1", "end-+1", "end- 1", "end -1", " end", "end ", "end1",
            "end-x", "end-9223372036854775808", "end-0x", "1-1", "e", "end-end"}) {
            talk.fails("not an integer: " + bad, "lindex {a b c} {" + bad + "}").fails("not an integer: " + bad, "string index abc {" + bad + "}");
        }
    }

    private static void sets() {
        Talk talk = Talk.about("set v ?x?: the value (that it becomes).");
        talk.fine("", "set a {}").fine("", "set a {}; set a").fine("5", "set a 5; set a").fine("6", "set a 5; set a 6; set a")
            .fails("wrong number of words: set", "set").fails("wrong number of words: set", "set a b c").fails("no such variable: a", "set a")
            .refuses("wrong number of words: set", "set a b c", "0", "info exists a");
        talk.fine("5", "set {a b} 5; set {a b}").fine("5", "set a(b) 5; set a(b)");
    }

    private static void unsets() {
        Talk talk = Talk.about("unset v: empty (a link's other one goes, the link stays).");
        talk.fine("", "set a 1; unset a").fine("0", "set a 1; unset a; info exists a").fails("no such variable: a", "unset a")
            .fails("no such variable: a", "set a 1; unset a; unset a").fine("2", "set a 1; unset a; set a 2")
            .fine("0 0", "set a 1; upvar 0 a b; unset b; list [info exists a] [info exists b]");
        talk.fine("3", "set a 1; upvar 0 a b; unset b; set b 3; set a").fails("no such variable: b", "set a 1; upvar 0 a b; unset b; unset b")
            .fine("0 0", "set a 1; upvar 0 a b; unset a; list [info exists a] [info exists b]").fails("wrong number of words: unset", "unset a b");
    }

    private static void increases() {
        Talk talk = Talk.about("incr v ?n? (1; a variable that isn't there counts 0; the value, then n, must be integers): wraps in 64 "
            + "bits.");
        talk.fine("1", "incr a").fine("1", "incr a; set a").fine("-5", "incr a -5").fine("3", "set a 1; incr a 2")
            .fine(LOWEST, "set a " + HIGHEST + "; incr a").fine(HIGHEST, "set a " + LOWEST + "; incr a -1")
            .fine("-2", "set a " + HIGHEST + "; incr a " + HIGHEST).fine("0", "set a " + LOWEST + "; incr a " + LOWEST);
        talk.refuses("not an integer: x", "set a x; incr a y", "x", "set a").refuses("not an integer: y", "set a 1; incr a y", "1", "set a")
            .refuses("not an integer: y", "incr a y", "0", "info exists a").fails("not an integer: ", "set a {}; incr a")
            .fails("not an integer: 9223372036854775808", "set a 9223372036854775808; incr a");
        talk.fails("wrong number of words: incr", "incr").fails("wrong number of words: incr", "incr a 1 1");
    }

    private static void appends() {
        Talk talk = Talk.about("append v x...: the value. Without the variable these begin with nothing, and it is there then, without "
            + "an x, too.");
        talk.fine("", "append a").fine("1", "append a; info exists a").fine("", "append a {}; set a").fine("x", "set a x; append a")
            .fine("abc", "append a ab c").fine("xabc", "set a x; append a ab c; set a").fine("1", "lappend a; info exists a").fine("", "lappend a")
            .fine("aa", "set a a; append a $a").fine("x", "upvar 0 b a; append a x; set b");
    }

    private static void listAppends() {
        Talk talk = Talk.about("lappend v x...: each word written behind the value (a space between, if there is something; a value "
            + "that is no list: bad list)");
        talk.fine("a", "lappend l a").fine("a b", "lappend l a; lappend l b").fine("a {} {b c}", "lappend l a {} {b c}")
            .fine("  a", "set l { }; lappend l a").fine("a  b", "set l {a }; lappend l b").fine("{} {}", "lappend l {}; lappend l {}")
            .fine(" ", "set l { }; lappend l").fine("{a}  b", "set l {{a} }; lappend l b").fine("{#} {#}", "lappend l # #");
        talk.refuses("bad list", "set l \\{; lappend l", "{", "set l").refuses("bad list", "set l a\\ \\{; lappend l x", "a {", "set l");
    }

    private static void choices() {
        Talk talk = Talk.about("if: expressions in order till one is true; its body, or the last one; empty if none.");
        talk.fine("", "if 0 {set x 1}").fine("1", "if 1 {set x 1}").fine("1", "if -1 {set x 1}").fine("1", "if 1 then {set x 1}")
            .fine("2", "if 0 {set x 1} {set x 2}").fine("2", "if 0 {set x 1} else {set x 2}").fine("2", "if 0 then {set x 1} else {set x 2}")
            .fine("", "if 0 {set x 1} elseif 0 {set x 2}");
        talk.fine("2", "if 0 {set x 1} elseif 1 {set x 2} else {set x 3}").fine("3", "if 0 {set x 1} elseif 0 then {set x 2} {set x 3}")
            .fine("4", "if 0 {} elseif 0 {} elseif 0 {} elseif 1 {set x 4} else {set x 5}")
            .tells("\3a\n", "if {[puts a] eq {}} {} elseif {[puts b] eq {}} {}").fine("", "set x 1; if 0 {}").fine("", "set x 1; if 1 {}");
        talk.fine("0", "if 0x0 {set x 1} {set x 0}").fails("not an integer: a", "if {\"a\"} {}").fails("not an integer: ", "if {\"\"} {}")
            .fails("bad expression: ", "if {} {}").fine("3", "catch {if 1 break}").fine("4", "catch {if 0 {} continue}");
    }

    private static void choicesThatDontFit() {
        Talk talk = Talk.about("what doesn't fit so, a body that lacks behind then, else, elseif t, too, is told ahead of all: wrong "
            + "number of words: if.");
        String[] wrong = {"", " 1", " 1 then", " 1 a else", " 1 then a else", " 0 a elseif", " 0 a elseif 1", " 0 a elseif 1 then",
            " 0 a elseif 1 b else", " 0 a b c", " 1 a else b c", " 1 a else b else c", " 1 a elseif 1 b c d", " 1 then a b c", " 1 a b else c",
            " 1 a b elseif 1 c", " 1 a then b"};
        for (String words : wrong) {
            talk.fails("wrong number of words: if", "if" + words).costs(1, "if" + words);
        }
        talk.tells("", "catch {if {[puts a] eq {}} {puts b} else}").fine("1", "proc then {} {set x 1}; if 1 then then")
            .fine("1", "proc else {} {set x 1}; if 0 {} else else").fine("1", "proc elseif {} {set x 1}; if 0 {} else elseif")
            .fine("1", "proc else {} {set x 1}; if 1 else {}");
    }

    private static void loops() {
        Talk talk = Talk.about("while t b: empty. for s t n b: s, then while t: b, n.");
        talk.fine("", "while 0 {}").fine("", "set i 0; while {[incr i] < 3} {set x 1}").fine("3", "while {[incr i] < 3} {}; set i")
            .fine("", "for {set i 0} {$i < 2} {incr i} {set x 1}").fine("0", "for {set i 0} 0 {incr i} {set i 9}; set i")
            .tells("\3s\n\3b\n\3n\n", "for {puts s; set i 0} {$i < 1} {incr i; puts n} {puts b}");
        talk.fails("not an integer: a", "while {{a}} {}").fails("bad expression: ", "while {} {}").tells("", "for {} {$nosuch} {puts n} {puts b}")
            .fails("wrong number of words: while", "while 1").fails("wrong number of words: for", "for {} 0 {}")
            .fails("wrong number of words: for", "for {} 0 {} {} {}");
    }

    private static void loopCodes() {
        Talk talk = Talk.about("In bodies of while, for, foreach 3 ends the loop with 0, 4 the round (n comes); other codes but 0 end "
            + "it and are its own");
        String[] heads = {"while {[incr i] < 4} ", "for {set i 1} {$i < 4} {incr i} ", "foreach i {1 2 3} "};
        for (String head : heads) {
            talk.fine("1", head + "break; set i").fine("", head + "break").fine("", head + "continue")
                .fine("1 3", head + "{if {$i == 2} continue; lappend l $i}; set l").fine("1", head + "{if {$i == 2} break; lappend l $i}; set l")
                .fails("boo", head + "{error boo}").fine("r", head + "{return r}").fine("2", "catch {" + head + "{return r}}");
            talk.fine("1", "proc f {} {return -code break}; " + head + "f; set i")
                .fine("0", "proc f {} {return -code continue}; set n 0; " + head + "{f; incr n}; set n")
                .fine("1", head + "{while 1 break; foreach j {1 2} break; break}; set i");
        }
        talk.fine("4", "for {set i 1} {$i < 4} {incr i} {continue}; set i").fine("4", "while {[incr i] < 4} {continue}; set i");
    }

    private static void stepCodes() {
        Talk talk = Talk.about("n's 3 ends, too, 4 is an error: continue outside of a loop");
        talk.fine("0", "for {set i 0} 1 break {}; set i").fine("", "for {} 1 break {set x 1}")
            .fails("continue outside of a loop", "for {} 1 continue {}").fails("boo", "for {} 1 {error boo} {}").fine("r", "for {} 1 {return r} {}")
            .fine("1 {continue outside of a loop}", "list [catch {for {} 1 continue {}} m] $m").fine("2", "catch {for {} 1 {return r} {}}");
    }

    private static void testCodes() {
        Talk talk = Talk.about("any code but 0 of s, of a test, or out of brackets in them, is the command's own");
        talk.fine("3", "catch {for break 1 {} {}}").fine("4", "catch {for continue 1 {} {}}").fine("2", "catch {for return 1 {} {}}")
            .fine("1", "catch {for {error a} 1 {} {}}").fine("3", "catch {while {[break]} {}}").fine("4", "catch {while {[continue]} {}}")
            .fine("2", "catch {while {[return]} {}}").fine("3", "catch {for {} {[break]} {} {}}");
        talk.fine("4", "catch {for {} {[continue]} {} {}}").fine("3", "catch {if {[break]} {}}").fine("3", "catch {for {set x [break]} 1 {} {}}")
            .fine("1", "while 1 {for break 1 {} {}; set x 1}; set y 1").fine("0", "info exists x");
    }

    private static void rounds() {
        Talk talk = Talk.about("foreach v l b: v becomes each element.");
        talk.fine("", "foreach v {} {set x 1}").fine("0", "foreach v {} {}; info exists v").fine("", "foreach v {a b} {set x 1}")
            .fine("b", "foreach v {a b} {}; set v").fine("a--", "foreach v {a {} } {append s $v-}; set s")
            .fine("a b ", "set l {a b}; foreach v $l {set l c; append s $v { }}; set s").fails("bad list", "foreach v {a {} \"} {}");
        talk.fine("1 2", "foreach v {1 2} {set v 9; lappend s $v; set v 5}; foreach v {1 2} {lappend r $v}; set r")
            .fails("wrong number of words: foreach", "foreach v {}");
    }

    private static void switchOptions() {
        Talk talk = Talk.about("switch ?-exact|-glob? x (an option only when two words more come; another first word is x)");
        talk.fine("1", "switch -exact a {a {set x 1}}").fine("1", "switch -glob abc {a* {set x 1}}").fine("", "switch -exact abc {a* {set x 1}}")
            .fine("", "switch abc {a* {set x 1}}").fine("1", "switch -exact {-exact {set x 1}}").fine("1", "switch -glob {-glob {set x 1}}")
            .fine("1", "switch -glob -glob {-glob {set x 1}}");
        talk.fine("1", "switch -foo -foo {set x 1}").fine("", "switch -foo a b").fails("extra pattern without body", "switch -foo a b c")
            .fails("extra pattern without body", "switch -glob a b").fine("", "switch -glob a b c").fails("wrong number of words: switch", "switch")
            .fails("wrong number of words: switch", "switch a");
    }

    private static void switchBodies() {
        Talk talk = Talk.about("the body of the first pattern that is x (or fits), or of a last one default; a body - is that of the "
            + "next pattern (the last one -: no body: P, the pattern that was found); empty if none");
        talk.fine("1", "switch a a {set x 1} a {set x 2}").fine("2", "switch a b {set x 1} a {set x 2}").fine("", "switch a b {set x 1}")
            .fine("3", "switch a b {set x 1} default {set x 3}").fine("", "switch a default {set x 3} b {set x 1}")
            .fine("3", "switch default default {set x 3} b {set x 1}");
        talk.fine("1", "switch b a b b {set x 1}").fine("1", "switch -glob b {a b* b {set x 1}}").fine("", "switch b a b c d");
        talk.fine("2", "switch a a - b {set x 2}").fine("3", "switch a a - b - c {set x 3}").fine("3", "switch a a - default {set x 3}")
            .fails("no body: a", "switch a a -").fails("no body: a", "switch a a - b -").fails("no body: b", "switch b a - b -")
            .fails("no body: default", "switch c a - default -").fine("", "switch c a - b -").fails("no body: a*", "switch -glob ab a* -");
        talk.fine("", "switch {} {} {}").fine("1", "switch {} {{} {set x 1}}").fine("1", "switch -glob {} * {set x 1}")
            .fine("4", "switch -glob x default {set x 4}");
    }

    private static void switchLists() {
        Talk talk = Talk.about("with one word behind x that is the list of them; an odd number: extra pattern without body, ahead of all");
        talk.fine("", "switch a {}").fine("1", "switch a {a {set x 1}}").fails("extra pattern without body", "switch a {a}")
            .fails("extra pattern without body", "switch a {a b c}").fails("extra pattern without body", "switch a a b c")
            .fails("extra pattern without body", "switch a {a - b}").fails("bad list", "switch a {a {b}c}").fails("bad list", "switch a \\{");
        talk.tells("", "catch {switch a a {puts b} c}").tells("", "catch {switch a {a {puts b} c}}").fine("", "switch a { }");
    }

    private static void procAnew() {
        Talk talk = Talk.about("proc n {a ...} b: empty (n anew, if it is there; what runs of it goes on as it was)");
        talk.fine("", "proc f {} {}").fine("2", "proc f {} {set x 1}; proc f {} {set x 2}; f").fine("1", "proc f a {set x 1}; proc f {} {set x 1}; f")
            .fine("1 2", "proc f {} {proc f {} {set x 2}; set x 1}; list [f] [f]").fine("f", "proc f {} {}; proc f {} {}; info procs");
        talk.fine("1 2", "proc f {{a 0}} {if {$a == 0} {proc f {} {set x 2}}; set x 1}; list [f] [f]")
            .refuses("bad list", "proc f {} {set x 1}; proc f \\{ {}", "1", "f").fine("5", "proc {a b} {} {set x 5}; {a b}")
            .fine("5", "proc {} {} {set x 5}; {}");
    }

    private static void procArguments() {
        Talk talk = Talk.about("each a list of a name, or of a name and a default; a last one named args takes the rest, as a list (a "
            + "default of it is nothing); the others are filled from the left, one that has no default must be told");
        talk.fine("1 2", "proc f {a b} {list $a $b}; f 1 2").fine("1 7", "proc f {a {b 7}} {list $a $b}; f 1")
            .fine("1 {}", "proc f {a {b {}}} {list $a $b}; f 1").fine("1 2", "proc f {a {b 7}} {list $a $b}; f 1 2")
            .fails("wrong number of words: f", "proc f {{a 1} b} {}; f 2").fine("2 3", "proc f {{a 1} b} {list $a $b}; f 2 3");
        talk.fine("", "proc f args {set args}; f").fine("{a b} c", "proc f args {set args}; f {a b} c")
            .fine("1 {}", "proc f {a args} {list $a $args}; f 1").fine("", "proc f {{args 5}} {set args}; f")
            .fine("5", "proc f {{args 5} a} {set args}; f 5 6").fails("wrong number of words: f", "proc f {args a} {}; f 1")
            .fine("1", "proc f {args a} {set args}; f 1 2");
        talk.fails("wrong number of words: f", "proc f {args a} {}; f 1 2 3").fine("1 2 {3 4}", "proc f {a {b 7} args} {list $a $b $args}; f 1 2 3 4")
            .fine("2", "proc f {a a} {set a}; f 1 2").fine("x", "proc f {{a x}} {set a}; f").fine("{b c}", "proc f {{a {b c}}} {list $a}; f");
    }

    private static void procErrors() {
        Talk talk = Talk.about("n a listed command: can't be changed: n; an argument that is a list of other than one or two: bad "
            + "argument: A (its text; one that is none: bad list), in this order, then too many procedures");
        talk.fails("can't be changed: list", "proc list {} {}").fails("can't be changed: list", "proc list \\{ {}")
            .fails("can't be changed: list", "proc list {{a b c}} {}").fails("bad list", "proc f \\{ {}").fails("bad argument: ", "proc f {{}} {}")
            .fails("bad argument: a b c", "proc f {{a b c}} {}").fine("", "proc f {{a b}} {}");
        talk.fails("bad argument:  ", "proc f {{ }} {}").fails("bad list", "proc f {\\{} {}").fails("bad argument: ", "proc f {a {} \\{} {}")
            .fails("bad list", "proc f {a \\{ {}} {}").fails("bad list", "proc f {{} {} {a}b} {}").fine("", "catch {proc f {{}} {}}; info procs");
        String most = "for {set i 0} {$i < 32} {incr i} {proc p$i {} {}}; ";
        talk.fails("can't be changed: set", most + "proc set {} {}").fails("bad argument: ", most + "proc q {{}} {}")
            .fails("bad list", most + "proc q {\\{} {}").fails("too many procedures", most + "proc q {} {}");
    }

    private static void calls() {
        Talk talk = Talk.about("A call with another number of words: wrong number of words: n. The body runs in a frame of its own (its "
            + "arguments are set there, one by one)");
        talk.fails("wrong number of words: f", "proc f {} {}; f 1").fails("wrong number of words: f", "proc f a {}; f")
            .fails("wrong number of words: f", "proc f a {}; f 1 2").fine("", "proc f a {}; f 1").tells("", "proc f a {puts b}; catch {f}")
            .fails("no such variable: x", "set x 1; proc f {} {set x}; f").fine("0", "proc f {} {set y 1}; f; info exists y");
        talk.refuses("no such variable: ", "proc f {a {{} 1}} {}; f 1", "0 0", "list [info level] [info exists a]")
            .fine("1 2", "proc f n {if {$n} {f 0}; set n}; list [f 1] 2").fine("", "proc f {} {}; f").fine("5", "proc f {} {set x 5}; set y 6; f");
    }

    private static void manyCalls() {
        Talk talk = Talk.about("VARIABLES lie in FRAMES, one of each call of a procedure and one for the run");
        talk.fine("0", "proc f {} {set e [info exists e]}; f; f")
            .fine("0 1", "proc f a {set b $a}; for {set i 0} {$i < 200} {incr i} {f $i}; list [info exists b] [info exists i]")
            .fine("19900 0", "proc f a {set b $a}; set s 0; for {set i 0} {$i < 200} {incr i} {incr s [f $i]}; list $s [info level]")
            .fine("1", "proc f {} {error boo}; for {set i 0} {$i < 200} {incr i} {catch f}; proc g {} {info level}; g");
    }

    private static void callCodes() {
        Talk talk = Talk.about("3, 4 become errors: break outside of a loop, continue outside of a loop");
        talk.fails("break outside of a loop", "proc f {} break; f").fails("continue outside of a loop", "proc f {} continue; f")
            .fails("break outside of a loop", "proc f {} break; while 1 f").fails("break outside of a loop", "proc f {} {eval {set x [break]}}; f")
            .fine("1 {break outside of a loop}", "proc f {} break; list [catch f m] $m").fails("boo", "proc f {} {error boo}; f")
            .fine("0", "proc f {} break; catch f; info level");
    }

    private static void returns() {
        Talk talk = Talk.about("return ?-code c? ?x?: 2 (-code only with a word behind it)");
        talk.fine("", "return").fine("x", "return x").fine("-code", "return -code").fine("2 {}", "list [catch return m] $m")
            .fine("2 -code", "list [catch {return -code} m] $m").fails("wrong number of words: return", "return a b")
            .fails("wrong number of words: return", "return a b c").fails("wrong number of words: return", "return -code 0 a b");
        talk.fine("", "return -code 0").fine("-code", "return -code 0 -code").fails("bad code: -code", "return -code -code")
            .fails("wrong number of words: return", "return -Code 0");
    }

    private static void returnCodes() {
        Talk talk = Talk.about("c of ok (not told) error return break continue or an integer 0 to 4: the procedure whose body gives "
            + "this 2 gives that code then; another: bad code: C");
        String[] names = {"ok", "error", "return", "break", "continue"};
        for (int i = 0; i <= 4; i++) {
            String due = i + " x";
            talk.fine(due, "proc f {} {return -code " + names[i] + " x}; list [catch f m] $m")
                .fine(due, "proc f {} {return -code " + i + " x}; list [catch f m] $m")
                .fine(due, "proc f {} {return -code +0x" + i + " x}; list [catch f m] $m").fine("2", "catch {return -code " + i + " x}");
            talk.fine(due, "proc f {} {eval {return -code " + i + " x}}; list [catch f m] $m")
                .fine(due, "proc f {} {while 1 {return -code " + i + " x}}; list [catch f m] $m")
                .fine(due, "proc f {} {uplevel {return -code " + i + " x}}; list [catch f m] $m");
        }
        for (String bad : new String[] {"5", "-1", "x", "", "OK", "ok ", "0x5", "99999999999999999999", "4294967296", "1.0"}) {
            talk.fails("bad code: " + bad, "return -code {" + bad + "}")
                .fine("1 {bad code: " + bad + "}", "proc f {} {return -code {" + bad + "} x}; list [catch f m] $m");
        }
        talk.fine("0 y", "proc f {} {return -code 2 x}; proc g {} {f; set y 1}; list [catch g] y")
            .fine("x", "proc f {} {return -code 2 x}; proc g {} {f; set y 1}; g").fine("7", "proc f {} {catch {return -code 3 x}; return 7}; f")
            .fine("9", "proc f {} {catch {return -code error x}; set x 9}; f");
    }

    private static void runCodes() {
        Talk talk = Talk.about("or the run. A run's 3 and 4 are these errors, too, whatever gave them (but -code 3, 4 of a return in "
            + "the run's own script: these are as they are)");
        talk.gives(0, "x", "return -code 0 x").gives(1, "x", "return -code 1 x").gives(2, "x", "return -code 2 x").gives(3, "x", "return -code 3 x")
            .gives(4, "x", "return -code 4 x").gives(3, "", "eval {return -code break}").gives(4, "x", "while 1 {return -code 4 x}")
            .gives(3, "x", "set y [return -code 3 x]");
        talk.fails("break outside of a loop", "break").fails("continue outside of a loop", "continue")
            .fails("break outside of a loop", "proc f {} {return -code 3 x}; f")
            .fails("continue outside of a loop", "proc f {} {return -code 4 x}; f").fails("break outside of a loop", "eval {if 1 break}")
            .fine("x", "proc f {} {return -code 2 x}; f; set y 1");
    }

    private static void globals() {
        Talk talk = Talk.about("global v...: links to level 0's, as by upvar (at level 0 nothing).");
        talk.fine("", "global a").fine("0", "global a; info exists a").fine("5", "set a 5; global a; set a").fine("", "global {}")
            .fine("6", "proc f {} {global a; set a 6}; f; set a").fine("1 2", "proc f {} {global a b; set a 1; set b 2}; f; list $a $b")
            .fails("variable is there: a", "proc f a {global a}; f 1").fails("wrong number of words: global", "proc f {} {global}; f");
        talk.fine("3", "proc f {} {global a; global a; set a 3}; f; set a").fine("7", "proc f {} {g}; proc g {} {global a; set a 7}; f; set a")
            .fine("1 {variable is there: b}", "proc f b {global a b c; set a 1}; list [catch {f 1} m] $m")
            .fine("4", "proc f {} {upvar b a; global a; set a 4}; f; set a");
    }

    private static void upvars() {
        Talk talk = Talk.about("a link to itself is nothing; v is there already and no link: variable is there: V (a link is led anew)");
        talk.fine("", "upvar 0 a a").fine("1", "set a 1; upvar 0 a a; set a").fine("", "upvar 0 b a; upvar 0 a b")
            .fine("1", "set b 1; upvar 0 b a; upvar 0 a b; set b")
            .refuses("variable is there: b", "set a 1; set b 2; upvar 0 a b", "1 2", "list $a $b")
            .fine("1 2 2", "set a 1; set c 2; upvar 0 a b; set d $b; upvar 0 c b; list $a $c $b");
        talk.fine("0 0", "proc f {} {upvar a x b y; list [info exists a] [info exists b]}; set x 1; set b 1; f")
            .fine("1 2", "proc f {} {upvar a x b y; list $x $y}; set a 1; set b 2; f")
            .fails("variable is there: y", "proc f {} {set y 1; upvar a x b y}; f")
            .fine("1 1", "proc f {} {set y 1; catch {upvar a x b y}; list $x $y}; set a 1; f").fine("", "set a 1; unset a; upvar 0 b a")
            .fine("0", "upvar 0 a a; info exists a");
    }

    private static void upvarLevels() {
        Talk talk = Talk.about("upvar ?l? o v ... (l if the words are odd in number): level l (an integer up from here, or # and a "
            + "level; 1): no such level: L");
        talk.fails("no such level: 1", "upvar a b").fails("no such level: 1", "upvar 1 a b").fine("", "upvar 0 a b").fine("", "upvar #0 a b")
            .fails("no such level: #1", "upvar #1 a b").fine("", "proc f {} {upvar 1 a b}; f").fails("no such level: 2", "proc f {} {upvar 2 a b}; f")
            .fine("", "proc f {} {upvar #1 a b}; f").fails("no such level: #2", "proc f {} {upvar #2 a b}; f");
        for (String bad : new String[] {"-1", "x", "", "#", "#x", "#-1", "# 0", "1 ", "99999999999999999999", "4294967296", "#4294967296", "1.0", LOWEST, HIGHEST}) {
            talk.fails("no such level: " + bad, "upvar {" + bad + "} a b").fails("no such level: " + bad, "proc f {} {upvar {" + bad + "} a b}; f");
        }
        talk.fails("wrong number of words: upvar", "upvar").fails("wrong number of words: upvar", "upvar 0")
            .fine("5", "proc f {} {upvar 0x1 a b; set b 5}; f; set a")
            .fine("5", "proc f {} {g}; proc g {} {upvar #1 a b; set b 5}; proc f {} {g; set a}; f");
    }

    private static void uplevels() {
        Talk talk = Talk.about("uplevel ?l? x... (l if the first word is digits, or # and digits, and there are more; 1)");
        talk.fails("no such level: 1", "uplevel {set x 1}").fine("1", "uplevel 0 {set x 1}").fine("1", "uplevel #0 set x 1")
            .fails("no such level: 1", "uplevel 1 {set x 1}").fails("no such level: #1", "uplevel #1 {set x 1}")
            .fine("1", "proc f {} {uplevel {set x 1}}; f; set x").fine("1", "proc f {} {uplevel 1 set x 1}; f; set x");
        talk.fails("no such command: 1", "proc f {} {uplevel 1}; f").fine("", "proc f {} {uplevel #0}; f")
            .fails("no such command: -1", "proc f {} {uplevel -1 x}; f").fails("no such command: +1", "proc f {} {uplevel +1 x}; f")
            .fails("no such command: 0x1", "proc f {} {uplevel 0x1 x}; f").fails("no such command: 1a", "proc f {} {uplevel 1a x}; f")
            .fails("no such command: 1:", "proc f {} {uplevel 1: x}; f").fails("no such command: 1/", "proc f {} {uplevel 1/ x}; f");
        talk.fine("", "proc f {} {uplevel # x}; f").fails("no such level: 2", "proc f {} {uplevel 2 x}; f")
            .fails("no such level: #2", "proc f {} {uplevel #2 x}; f").fails("no such level: 99999999999999999999", "uplevel 99999999999999999999 x")
            .fails("no such level: #99999999999999999999", "uplevel #99999999999999999999 x").fine("1", "proc f {} {uplevel 01 {set x 1}}; f; set x");
        talk.fails("no such level: 4294967296", "uplevel 4294967296 x")
            .fails("no such level: 2", "uplevel 2 [string repeat a 1000] [string repeat a 1000]")
            .fine("1", "proc f {} {uplevel #1 {set x 1}; set x}; f");
    }

    private static void levelsAlongCallers() {
        Talk talk = Talk.about("Levels are counted from the frame at hand along callers (greater ones than its own: no such level).");
        talk.fine("0", "proc f {} {uplevel {info level}}; f").fine("1", "proc f {} {uplevel {g}}; proc g {} {info level}; f")
            .fine("2", "proc f {} {g}; proc g {} {info level}; f").fine("0", "proc f {} {uplevel #0 {uplevel 0 {info level}}}; f")
            .fails("no such level: 1", "proc f {} {uplevel #0 {uplevel 1 {list}}}; f")
            .fails("no such level: #1", "proc f {} {uplevel #0 {upvar #1 a b}}; f");
        talk.fine("1", "proc f {} {set v 1; uplevel g; set v}; proc g {} {upvar v w; set w 2}; f")
            .fine("2", "proc f {} {set v 1; uplevel g; set v}; proc g {} {upvar v w; set w 2}; f; set v");
        talk.fine("0 1 2 1 0", "proc f {} {global r; lappend r [info level]; g; lappend r [info level]}; "
            + "proc g {} {global r; lappend r [info level]}; set r 0; f; lappend r [info level]");
    }

    private static void catches() {
        Talk talk = Talk.about("catch b ?v?: b's code (but 5); v becomes its result.");
        talk.fine("0 {}", "list [catch {} m] $m").fine("0 5", "list [catch {set a 5} m] $m").fine("1 boo", "list [catch {error boo} m] $m")
            .fine("2 x", "list [catch {return x} m] $m").fine("3 {}", "list [catch break m] $m").fine("4 {}", "list [catch continue m] $m")
            .fine("0", "catch {}; catch {} m").fine("1", "catch {error {}} m").fine("1 {}", "list [catch {error {}} m] $m");
        talk.fails("no such variable: ", "catch {error boo} {}").fine("2", "catch {proc f {} {return -code 2}; f}")
            .fine("1 {missing close-quote}", "list [catch {\"} m] $m");
        Talk.check("code 5", talk.run("catch {list; list} m; puts a", 2), 5);
        Talk.check("nothing behind", talk.told(), "");
    }

    private static void infos() {
        Talk talk = Talk.about("info exists v: 1 or 0 (a link to what isn't there: 0). info level: the level. info procs: names, "
            + "rising, a list.");
        talk.fine("0", "info exists a").fine("1", "set a {}; info exists a").fine("0", "upvar 0 b a; info exists a")
            .fine("1", "upvar 0 b a; set b 1; info exists a").fine("0", "info level").fine("1", "proc f {} {info level}; f").fine("", "info procs")
            .fine("A Z a aa b", "foreach p {b aa Z a A} {proc $p {} {}}; info procs")
            .fine("{} {#} {a b}", "proc {a b} {} {}; proc # {} {}; proc {} {} {}; info procs")
            .fine("{} a \u00ff", "proc \u00ff {} {}; proc a {} {}; proc {} {} {}; info procs");
        talk.fails("bad option: x", "info x").fails("bad option: x", "info x y z").fails("bad option: ", "info {}")
            .fails("wrong number of words: info", "info").fails("wrong number of words: info", "info exists")
            .fails("wrong number of words: info", "info exists a b").fails("wrong number of words: info", "info level 0")
            .fails("wrong number of words: info", "info procs *");
    }
}
