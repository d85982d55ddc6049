/** Fuel, and what is too long, too deep, or too many. */
public final class LimitTest {
    public static void main(String[] args) {
        fuel();
        longWords();
        longValues();
        longResults();
        deepScripts();
        variables();
        procedures();
        Talk.finish();
    }

    private static void fuel() {
        Talk talk = new Talk();
        talk.costs(0, "").costs(0, "# a").costs(1, "set a 1").costs(2, "set a 1; set b 2").costs(2, "set a [set b 1]").costs(1, "nosuch")
            .costs(1, "set a");
        talk.costs(2, "expr 1").costs(2, "expr {1 +}").costs(1, "expr").costs(3, "if 1 {set a 1}").costs(1, "if 1").costs(2, "if 0 {set a 1}")
            .costs(3, "if 0 a elseif 0 b");
        talk.costs(2, "while 0 {}").costs(5, "while {[incr i] < 2} {}").costs(1, "foreach x {} {}");
        talk.costs(4, "foreach x {a b c} {}").costs(7, "foreach x {a b c} {set y 1}").costs(3, "foreach x {a b c} break")
            .costs(3, "for {set i 0} 0 {} {}");
        talk.costs(2, "proc f {} {}; f").costs(3, "proc f {} {set a 1}; f").costs(2, "catch {set a 1}").costs(2, "eval set a 1")
            .costs(2, "switch a a {set b 1}");
        talk.costs(0, "set a {").costs(0, "set a $b").costs(1, "set a [set b]").costs(0, "string length " + "a".repeat(1025))
            .costs(1, "string length {" + "a".repeat(1025) + "}");
        Talk.check("no fuel for an expression", talk.run("expr 1", 1), 5);
        Talk.check("no fuel for a bad one", talk.run("expr {1 +}", 1), 5);
        Talk.check("no fuel for a round", talk.run("foreach x a {}", 1), 5);
        Talk.check("no fuel for words that are too long", talk.run("{" + "a".repeat(1025) + "}", 0), 5);
        Talk.check("no fuel for a body", talk.run("if 1 {puts a}", 2), 5);
        Talk.check("its transcript", talk.told(), "");
        Talk.check("fuel out of brackets", talk.run("puts [set a 1]", 1), 5);
        Talk.check("most fuel", talk.run("while 1 {incr i}", 50000), 5);
    }

    private static void longWords() {
        String most = "a".repeat(1024);
        Talk talk = new Talk();
        talk.fine(most, "set x " + most).fails("too long", "set x " + most + "a").fine(most, "set x {" + most + "}")
            .fails("too long", "set x {" + most + "a}");
        talk.fine(most, "set x \"" + most + "\"").fails("too long", "set x \"" + most + "a\"").fails("too long", "nosuch {" + most + "a}");
        talk.fine("1024", "set x " + most + "; string length $x[]").fails("too long", "set x " + most + "; string length $x[set y b]")
            .fails("too long", "set x " + most + "; string length b$x");
        talk.tells("\3b\n", "set y [puts b]" + most + "a").tells("", "set y " + most + "a[puts b]")
            .tells("\3b\n", "set x " + most + "; set y $x[puts b]");
        talk.tells("", "set x " + most + "; set y $x$x[puts b]").tells("\3b\n", "set x [puts b] {" + most + "a}");
        talk.fails("too long", "set x " + most + "; string equal $x $x").fine("-1", "set x [string repeat a 1017]; string compare $x ${x}b");
        talk.fails("too long", "set x [string repeat a 1018]; string compare $x $x")
            .fails("no such command: nosuch-", "set x [string repeat a 1018]; nosuch- $x $x 12345");
        talk.fails("too long", "set x [string repeat a 1018]; nosuch- $x $x 123456");
        talk.fine("128", "expr [llength [list" + " a".repeat(127) + "]] + 1").fails("too long", "list" + " a".repeat(128))
            .tells("\3b\n", "list" + " a".repeat(128) + " [puts b]");
        talk.fails("too long", "nosuch" + " a".repeat(200)).fails("no such variable: b", "list" + " a".repeat(200) + " $b");
        talk.fails("too long", "set x $a(" + "b".repeat(1022) + ")")
            .fine("1", "set {a(" + "b".repeat(1021) + ")} 1; set x $a(" + "b".repeat(1021) + ")");
        talk.fails("too long", "set x $a(" + "b".repeat(1023) + ")")
            .tells("\3b\n", "catch {set x $a(" + "b".repeat(900) + "[puts b][string repeat c 200])}");
        talk.fails("too long", "set x $" + "a".repeat(1024) + "([puts b])").tells("", "set x $" + "a".repeat(1024) + "([puts b])");
        talk.fails("no such variable: a(" + "b".repeat(1004), "set x $a(" + "b".repeat(1021) + ")");
        talk.fails("no such command: " + "a".repeat(1007), most).fails("bad option: " + "a".repeat(1012), "string " + most);
    }

    private static void longValues() {
        Talk talk = new Talk();
        talk.fine("1024", "append x [string repeat a 1000] [string repeat b 24]; string length $x");
        talk.fine("too long 1000", "append x [string repeat a 1000]; catch {append x [string repeat b 25]} m; concat $m [string length $x]");
        talk.fine("1000", "set x [string repeat a 1000]; catch {lappend x [string repeat b 24]}; string length $x")
            .fine("1024", "set x [string repeat a 1000]; lappend x [string repeat b 23]; string length $x");
        talk.fails("too long", "append {} [string repeat a 600] [string repeat a 600]")
            .fails("too long", "lappend {} [string repeat a 600] [string repeat a 600]");
        talk.fine("too long", "proc f args {}; set x [string repeat { } 1000]; catch {f $x abc {} {} {} {} {} {} {} {}} m; set m")
            .fine("1002", "proc f args {string length $args}; f [string repeat { } 1000]");
    }

    private static void longResults() {
        String big = "set x [string repeat {a } 512]; ";
        Talk talk = new Talk();
        talk.fine("1023", big + "string length [lreverse $x]").fails("too long", big + "join $x --").fails("too long", big + "list $x")
            .fails("too long", big + "concat $x $x");
        talk.fine("1024", "string length [concat [string repeat a 500] [string repeat a 523]]").fails("too long", "string repeat a 1025")
            .fine("1024", "string length [string repeat a 1024]");
        talk.fails("too long", "string map {a bbbb} [string repeat a 257]")
            .fails("too long", "string replace [string repeat a 1000] 0 0 [string repeat b 30]").fails("too long", "split [string repeat , 500] ,");
        talk.fails("too long", "linsert " + "{" + "a ".repeat(500) + "}" + " 0 " + "b".repeat(30))
            .fails("too long", "lreplace [string repeat {a } 500] 0 0 [string repeat b 30]");
        talk.fails("too long", "expr [string repeat 1 600] [string repeat 1 600]")
            .fails("too long", "eval [string repeat 1 600] [string repeat 1 600]");
        talk.fails("too long", "proc f {} {uplevel [string repeat a 600] [string repeat a 600]}; f")
            .costs(3, "expr [string repeat 1 600] [string repeat 1 600]");
        talk.fine("1", "set x [string repeat { } 1016]; eval $x {set q 1}").fails("too long", "set x [string repeat { } 1017]; eval $x {set q 1}");
        talk.fails("bad expression: " + "1".repeat(1008), "expr [string repeat 1 1024]")
            .fails("too long", "set e \"\\\"\\$x\\$x\\\"\"; set x [string repeat a 600]; expr $e");
    }

    private static void deepScripts() {
        Talk talk = new Talk();
        talk.fine("too deep 30", "proc f {} {global n; incr n; f}; catch f m; concat $m $n")
            .fine("16", "proc f {} {global n; incr n; catch f}; f; set n");
        talk.fine("30", "set e {incr n; eval $e}; catch {eval $e}; set n")
            .fine("31 {too deep}", "set e {incr n; catch $e m; if {$n == 31 && ![info exists r]} {set r $m}}; catch $e; list $n $r");
        talk.fine("15", "set e {[incr n; eval {expr $e}]}; catch {expr $e}; set n").fine("30", "set e {[incr n; expr $e]}; catch {expr $e}; set n")
            .fails("too deep", "set e {[expr $e]}; expr $e");
        talk.fine("too deep", "set e {[expr $e]}; catch {expr $e} m; set m").fine("too deep", "proc f {} {if {[f]} {}}; catch f m; set m");
        talk.fine("a", "set e {expr $d}; set d {\"a\"}; eval $e");
    }

    private static void variables() {
        String most = "for {set i 1} {$i < 128} {incr i} {set v$i 1}; ";
        Talk talk = new Talk();
        talk.fine("1", most + "set v1").fails("too many variables", most + "set w 1").fails("too many variables", most + "append w")
            .fails("too many variables", most + "upvar 0 v1 w");
        talk.fails("too many variables", most + "proc f a {}; f 1").fine("", most + "proc f {} {}; f")
            .fails("too many variables", most + "proc f {} {global i}; f").fails("too many variables", most + "catch {} m");
        talk.fine("2", most + "unset v7; set w 2").fine("3", most + "unset v7; proc f a {set a}; f 3; f 3; f 3")
            .fails("too many variables", most + "spawn; expect {} {}");
        talk.fails("no such variable: ", most + "set {} 1").fails("variable is there: v2", most + "upvar 0 v1 v2")
            .fails("too many variables", most + "foreach w a {}");
        talk.fine("128", most + "incr i 0");
    }

    private static void procedures() {
        String most = "for {set i 0} {$i < 32} {incr i} {proc p$i {} {set x 1}}; ";
        Talk talk = new Talk();
        talk.fine("32", most + "llength [info procs]").fails("too many procedures", most + "proc q {} {}")
            .fine("2", most + "proc p3 {} {set x 2}; p3");
        talk.fails("too long", "for {set i 0} {$i < 11} {incr i} {proc [string repeat p 100]$i {} {}}; info procs");
        talk.fails("bad list", most + "proc q \\{ {}").fails("can't be changed: if", most + "proc if {} {}")
            .fails("no such command: q", most + "catch {proc q {} {}}; q");
    }
}
