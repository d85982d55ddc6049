/** The boundary cases of RUNNING: codes, fuel, what is too long, too deep or too many, names and links. */
public final class EdgeRunningTest {
    private static final String MOST = "a".repeat(1024);
    /** Sets x to the longest text that there is. */
    private static final String SET_MOST = "set x [string repeat a 1024]; ";

    public static void main(String[] args) {
        stops();
        fuelOfCommands();
        fuelOfExpressions();
        fuelOfRounds();
        fuelGone();
        longPlainWords();
        longJoinedWords();
        longIndexes();
        longValues();
        longExpressions();
        longScripts();
        longResults();
        longBracedWords();
        allWords();
        manyWords();
        deepScripts();
        deepBodies();
        deepExpressions();
        deepBrackets();
        deepOwnError();
        manyVariables();
        manyLinks();
        manyProcedures();
        errorsAsAny();
        cutMessages();
        emptyNames();
        emptyLinks();
        absentVariables();
        links();
        Talk.finish();
    }

    private static void stops() {
        Talk talk = Talk.about("A script stops at the first code but 0, with that result.");
        talk.fine("", "").fine("2", "set a 1; set a 2").fails("boo", "set a 1; error boo; set a 2").fine("x", "set a 1; return x; set a 2")
            .tells("\3a\n", "puts a; break; puts b").fine("3 {} 1", "list [catch {set a 1; break; set a 2} m] $m $a");
        talk.fine("4 {} 1", "list [catch {set a 1; continue; set a 2} m] $m $a").fine("2 r 1", "list [catch {set a 1; return r; set a 2} m] $m $a");
    }

    private static void fuelOfCommands() {
        Talk talk = Talk.about("FUEL: 1 for each command when its words are there (ahead of all that follows)");
        talk.costs(0, "").costs(1, "list").costs(2, "list; list").costs(3, "list [list] [list]").costs(1, "nosuch").costs(1, "set")
            .costs(0, "list $a").costs(1, "list [list] $a").costs(2, "eval list").costs(3, "proc f {} {list}; f").costs(2, "proc f {} {}; f");
        talk.costs(1, "list {" + MOST + "a}").costs(0, "list " + MOST + "a").costs(2, "catch nosuch").costs(0, "list {").costs(1, "list; list {")
            .costs(3, "if 1 {list}").costs(2, "switch a a list").costs(1, "break").costs(1, "return a");
    }

    private static void fuelOfExpressions() {
        Talk talk = Talk.about("1 for each evaluation of an expression (ahead of reading it, and of its errors)");
        talk.costs(2, "expr 1").costs(2, "expr {1 +}").costs(2, "expr {}").costs(2, "expr {1 / 0}").costs(2, "expr {(((((((((1)))))))))}")
            .costs(3, "expr {[list]}").costs(4, "expr {[expr 1]}").costs(2, "if 0 {list}").costs(3, "if 0 {list} elseif 0 {list}")
            .costs(2, "while 0 {}");
        talk.costs(5, "while {[incr i] < 2} {}").costs(2, "expr {$a}").costs(2, "for {} 0 {} {}").costs(6, "for {set i 0} {$i < 1} {incr i} {list}")
            .costs(1, "expr").costs(3, SET_MOST + "expr $x $x");
    }

    private static void fuelOfRounds() {
        Talk talk = Talk.about("1 for each round of foreach");
        talk.costs(1, "foreach i {} {}").costs(2, "foreach i a {}").costs(4, "foreach i {a b c} {}").costs(5, "foreach i {a b} list")
            .costs(3, "foreach i {a b c} break").costs(5, "foreach i {a b} continue").costs(2, "foreach {} a {}").costs(1, "foreach i \\{ {}");
    }

    private static void fuelGone() {
        Talk talk = Talk.about("When one is needed and none is left, the run ends at once with code 5, an empty result.");
        String[] scripts = {"puts a; puts b", "puts a; catch {puts b}", "puts a; expr {[puts b]}", "puts a; foreach i a {puts b}",
            "puts a; eval {puts b}", "puts a; puts [puts b]"};
        int[] fuels = {1, 2, 2, 2, 2, 1};
        for (int i = 0; i < scripts.length; i++) {
            Talk.check(scripts[i], talk.run(scripts[i], fuels[i]), 5);
            Talk.check("transcript of " + scripts[i], talk.told(), "\3a\n");
            Talk.check("result of " + scripts[i], talk.out(), "");
            Talk.check("fuel of " + scripts[i], talk.tongue.fuel(), 0);
        }
        Talk.check("no catch holds it", talk.run("set r 1; catch {catch {while 1 {}}}; puts a", 40), 5);
        Talk.check("nothing runs behind", talk.told(), "");
        talk.fine("1", "set a 1");
    }

    private static void longPlainWords() {
        Talk talk = Talk.about("a text of more than 1024 bytes (a word not in braces, as soon as the plain bytes between substitutions "
            + "are more) is the error too long");
        talk.fine(MOST, "set x " + MOST).fails("too long", "set x " + MOST + "a").fine(MOST, "set x \"" + MOST + "\"")
            .fails("too long", "set x \"" + MOST + "a\"").fine("\n".repeat(1024), "set x " + "\\n".repeat(1024))
            .fails("too long", "set x " + "\\n".repeat(1025));
        talk.fine("1024", "string length \"" + MOST.substring(1) + "\\\n  \"").fails("too long", "string length \"" + MOST + "\\\n  \"");
        talk.tells("", "set x " + MOST + "a[puts b]").tells("\3b\n", "set x " + MOST + "[puts b]").tells("\3b\n", "set x [puts b]" + MOST + "a")
            .fails("too long", "set x " + MOST + "a$nosuch").fails("no such variable: nosuch", "set x ${nosuch}" + MOST + "a");
        talk.fails("too long", MOST + "a").fails("no such command: " + MOST.substring(17), MOST)
            .tells("\3c\n", "puts c; puts [puts " + MOST + "b] [puts d]");
    }

    private static void longJoinedWords() {
        Talk talk = Talk.about("a word not in braces, as soon as what is joined so far is more");
        talk.fine("1024", SET_MOST + "string length $x").fine("1024", SET_MOST + "string length \"$x[]\"")
            .fails("too long", SET_MOST + "string length b$x").fails("too long", SET_MOST + "string length ${x}b")
            .fails("too long", SET_MOST + "string length \"$x$x\"");
        talk.fails("too long", SET_MOST + "string length $x[format b]").tells("\3b\n", SET_MOST + "set y $x[puts b]")
            .tells("", SET_MOST + "set y c$x[puts b]").tells("", SET_MOST + "set y ${x}c[puts b]").tells("", SET_MOST + "set y $x$x[puts b]")
            .tells("\3b\n", SET_MOST + "set y c[puts b]$x");
        talk.fails("too long", SET_MOST + "set y $x$x$nosuch").fails("no such variable: nosuch", SET_MOST + "set y $x$nosuch$x")
            .refuses("too long", SET_MOST + "set y b$x", "0", "info exists y");
    }

    private static void longIndexes() {
        Talk talk = Talk.about("an INDEX to NAME( , are more");
        String most = "b".repeat(1021);
        talk.fine("1", "set {a(" + most + ")} 1; set x $a(" + most + ")").fails("no such variable: a(" + "b".repeat(1004), "set x $a(" + most + ")")
            .fails("too long", "set x $a(" + most + "b)").fails("too long", "set x $a(" + most + "bb)");
        talk.fails("too long", SET_MOST + "set y $a($x)").tells("", "set y $a(" + most + "bb[puts c])")
            .tells("\3c\n", "set y $a(" + most + "b[puts c])").fine("1", "set y [string repeat b 1021]; set a($y) 1; set x $a($y)")
            .fails("too long", "set y [string repeat b 1022]; set x $a($y)");
        talk.fails("no such variable: " + MOST.substring(18), "set x $" + MOST)
            .fails("no such variable: " + MOST.substring(18), "set x ${" + MOST + "b}").fine("1", "set " + MOST + " 1; set x $" + MOST);
    }

    private static void longValues() {
        Talk talk = Talk.about("a value of more than 1024 bytes is the error too long (What is too long leaves it as it was; that is "
            + "told ahead of no such variable.)");
        talk.fine("1024", "set y [string repeat a 1000]; string length [append y [string repeat b 24]]")
            .fails("too long", "set y [string repeat a 1000]; append y [string repeat b 25]")
            .fine("1000", "set y [string repeat a 1000]; catch {append y [string repeat b 25]}; string length $y");
        talk.fine("1024", "set y [string repeat a 1000]; string length [lappend y [string repeat b 23]]")
            .fails("too long", "set y [string repeat a 1000]; lappend y [string repeat b 24]")
            .fine("1000", "set y [string repeat a 1000]; catch {lappend y [string repeat b 24]}; string length $y");
        talk.fine("too long 0", "catch {append y [string repeat a 1000] [string repeat b 25]} m; concat $m [info exists y]")
            .fails("too long", "append {} [string repeat a 1000] [string repeat b 25]")
            .fails("too long", "lappend {} [string repeat a 1000] [string repeat b 25]");
        talk.fails("no such variable: ", "append {} [string repeat a 1000] [string repeat b 24]")
            .fine("1024", "string length [lappend y [string repeat { } 1022]]").fails("too long", "lappend y [string repeat { } 1023]")
            .fine("1024", "proc f args {string length $args}; f [string repeat { } 1022]");
        talk.fails("too long", "proc f args {string length $args}; f [string repeat { } 1023]")
            .fine("0", "proc f {a args} {set b 1}; catch {f 1 [string repeat { } 1023]}; info level");
    }

    private static void longExpressions() {
        Talk talk = Talk.about("an expression's words (too long ahead of the evaluation)");
        talk.fine("1", "expr 1 [string repeat { } 1022]").fails("too long", "expr 1 [string repeat { } 1023]")
            .costs(2, "expr 1 [string repeat { } 1023]").costs(3, "expr 1 [string repeat { } 1022]").fails("too long", SET_MOST + "expr $x 1")
            .fails("bad expression: " + MOST.substring(16), SET_MOST + "expr $x");
        talk.fails("too long", SET_MOST + "expr {\"$x$x\"}").fails("too long", SET_MOST + "expr {\"1$x\"}").fine(MOST, SET_MOST + "expr {\"$x\"}")
            .fine("1", SET_MOST + "expr {$x eq \"$x\"}");
    }

    private static void longScripts() {
        Talk talk = Talk.about("a script that eval or uplevel joins");
        talk.fine("1", "set y [string repeat { } 1016]; eval $y {set z 1}").fails("too long", "set y [string repeat { } 1017]; eval $y {set z 1}")
            .tells("", "set y [string repeat { } 1020]; catch {eval {puts a;} $y}; list");
        talk.fine("1", "set y [string repeat { } 1016]; proc f {} {global y; uplevel $y {set z 1}}; f")
            .fails("too long", "set y [string repeat { } 1017]; proc f {} {global y; uplevel $y {set z 1}}; f")
            .fine("1", "set y [string repeat { } 1016]; uplevel 0 $y {set z 1}");
        talk.fails("too long", "set y [string repeat { } 1017]; uplevel #0 $y {set z 1}").fine("", "set y [string repeat { } 1024]; eval $y")
            .fine("0", "set y [string repeat { } 1017]; proc f {} {global y; catch {uplevel $y {set z 1}}; info exists z}; f");
    }

    private static void longResults() {
        Talk talk = Talk.about("a result of more than 1024 bytes is the error too long");
        talk.fine("1024", "string length [list [string repeat { } 1022]]").fails("too long", "list [string repeat { } 1023]")
            .fine("1024", "string length [concat [string repeat a 1000] [string repeat b 23]]")
            .fails("too long", "concat [string repeat a 1000] [string repeat b 24]");
        talk.fine(MOST, "string repeat a 1024").fails("too long", "string repeat a 1025").fine("1024", "string length [string repeat ab 512]")
            .fails("too long", "string repeat ab 513").fine("1024", "string length [join [string repeat {a } 342] {  }]")
            .fails("too long", "join [string repeat {a } 343] {  }");
        talk.fine("1024", "string length [string map {a bb} [string repeat a 512]]").fails("too long", "string map {a bb} [string repeat a 513]")
            .fine("1024", "string length [string replace [string repeat a 1000] 0 0 [string repeat b 25]]")
            .fails("too long", "string replace [string repeat a 1000] 0 0 [string repeat b 26]");
        talk.fine("1024", "string length [split [string repeat , 340]aaaa ,]").fails("too long", "split [string repeat , 340]aaaaa ,")
            .fine("1023", "string length [split [string repeat a 512] {}]").fails("too long", "split [string repeat a 513] {}")
            .fine("1024", "string length [format %1000s%24s a b]").fails("too long", "format %1000s%25s a b");
        talk.fine("1024", "string length [linsert [string repeat a 1000] 0 [string repeat b 23]]")
            .fails("too long", "linsert [string repeat a 1000] 0 [string repeat b 24]")
            .fine("1024", "string length [lreplace [list [string repeat a 1000] c] 1 1 [string repeat b 23]]")
            .fails("too long", "lreplace [list [string repeat a 1000] c] 1 1 [string repeat b 24]");
        String procedures = "foreach i {a b c d e f g h} {proc $i[string repeat p 126] {} {}}; ";
        talk.fine("1023", procedures + "string length [info procs]").fails("too long", procedures + "proc a {} {}; info procs");
        talk.fine("1024", "string length [lrange [string repeat {a; } 205] 0 end]").fails("too long", "lrange [string repeat {a; } 206] 0 end")
            .fine("1024", "string length [lreverse [string repeat {a; } 205]]").fails("too long", "lreverse [string repeat {a; } 206]")
            .fine("1024", "string length [lsort [string repeat {a; } 205]]").fails("too long", "lsort [string repeat {a; } 206]");
    }

    private static void longBracedWords() {
        Talk talk = Talk.about("so are words of a command of which one has more than 1024 bytes (behind the fuel, ahead of all else)");
        talk.fine("1024", "string length {" + MOST + "}").fails("too long", "string length {" + MOST + "a}")
            .fails("too long", "nosuch {" + MOST + "a}").fails("too long", "{" + MOST + "a}").fails("too long", "set {" + MOST + "a} b c d")
            .fails("too long", "string nosuch {" + MOST + "a}");
        talk.tells("\3b\n\3c\n", "list [puts b] {" + MOST + "a} [puts c]").costs(1, "string length {" + MOST + "a}")
            .fails("no such variable: b", "list {" + MOST + "a} $b").fine("1024", "string length {" + MOST.substring(1) + "\\\n  }")
            .fails("too long", "string length {" + MOST + "\\\n  }");
    }

    private static void allWords() {
        Talk talk = Talk.about("or all together more than 2048");
        String half = "set x [string repeat a 1000]; ";
        talk.fine("1", half + "string equal $x $x").fails("no such command: " + "b".repeat(48), half + "b".repeat(48) + " $x $x");
        talk.fails("too long", half + "b".repeat(49) + " $x $x").fails("too long", half + "string $x $x " + "c".repeat(43))
            .fails("bad option: " + MOST.substring(24), half + "string $x $x " + "c".repeat(42)).tells("\3b\n", half + "list $x $x $x [puts b]");
        talk.fails("too long", "list {" + MOST + "} {" + MOST.substring(3) + "}")
            .fails("too long", "nosuc {" + MOST + "} {" + MOST.substring(4) + "}")
            .fails("no such command: nosuc", "nosuc {" + MOST + "} {" + MOST.substring(5) + "}");
    }

    private static void manyWords() {
        Talk talk = Talk.about("or that are more than 128");
        talk.fine("127", "llength [list" + " a".repeat(127) + "]").fails("too long", "list" + " a".repeat(128))
            .fails("no such command: nosuch", "nosuch" + " {}".repeat(127)).fails("too long", "nosuch" + " {}".repeat(128))
            .fails("too long", "set" + " a".repeat(500)).fails("wrong number of words: set", "set" + " a".repeat(127));
        talk.tells("\3b\n", "list" + " a".repeat(128) + " [puts b]").costs(1, "list" + " a".repeat(128))
            .fails("no such variable: b", "list" + " a".repeat(300) + " $b").fine("126", "proc f {a args} {llength $args}; f" + " a".repeat(127))
            .fails("too long", "proc f args {}; f" + " a".repeat(128));
    }

    /** Scripts within one another, so many times; the run's own script counts, too. */
    private static String nest(String open, int times, String core, String close) {
        return open.repeat(times) + core + close.repeat(times);
    }

    private static void deepScripts() {
        Talk talk = Talk.about("Scripts that are run within one another (that of the run, of eval, catch, uplevel) more than 32: too deep");
        talk.fine("1", nest("eval {", 31, "set r 1", "}")).fails("too deep", nest("eval {", 32, "set r 1", "}"))
            .fails("too deep", nest("eval {", 32, "", "}")).fails("too deep", nest("eval {", 33, "", "}"));
        talk.fine("1", nest("catch {", 31, "set r 1", "}") + "; set r").fails("no such variable: r", nest("catch {", 32, "set r 1", "}") + "; set r")
            .fine("1", nest("uplevel 0 {", 31, "set r 1", "}")).fails("too deep", nest("uplevel #0 {", 32, "set r 1", "}"));
        talk.tells("\3a\n", "puts a; " + nest("eval {", 32, "puts b", "}")).fine("31", "set e {incr n; eval $e}; catch $e; set n")
            .fine("1", nest("eval {", 31, "set r 1", "}"));
    }

    private static void deepBodies() {
        Talk talk = Talk.about("Scripts that are run within one another (bodies) more than 32: too deep");
        String[] bodies = {"if 1 {", "if 0 {} else {", "switch a a {", "switch a {a {", "while 1 {", "for {} 1 {} {", "foreach i a {", "for {",
            "for {} 1 {", "expect {} {"};
        String[] closers = {"}", "}", "}", "}}", "; break}", "; break}", "}", "} 0 {} {}", "; break} {}", "}"};
        for (int i = 0; i < bodies.length; i++) {
            talk.fine("1", "spawn; " + nest(bodies[i], 31, "set r 1", closers[i]) + "; set r")
                .fails("too deep", "spawn; " + nest(bodies[i], 32, "set r 1", closers[i]) + "; set r");
        }
        talk.fine("30", "proc f {} {global n; incr n; f}; catch f; set n")
            .fine("1", "proc f n {if {$n > 1} {f [expr {$n - 1}]} {global r; set r 1}}; f 15; set r")
            .fails("too deep", "proc f n {if {$n > 1} {f [expr {$n - 1}]} {global r; set r 1}}; f 16; set r");
    }

    private static void deepExpressions() {
        Talk talk = Talk.about("expressions that are evaluated within one another more than 32: too deep (behind their fuel)");
        talk.fine("1", nest("eval {", 30, "expr 1", "}")).fails("too deep", nest("eval {", 31, "expr 1", "}"))
            .fails("too deep", nest("eval {", 31, "expr {1 +}", "}")).costs(33, nest("eval {", 31, "expr 1", "}"))
            .fails("too deep", nest("eval {", 31, "if 1 {}", "}"));
        talk.fine("30", "set e {[incr n; expr $e]}; catch {expr $e}; set n");
    }

    private static void deepBrackets() {
        Talk talk = Talk.about("not what stands in brackets");
        talk.fine("1", nest("eval {", 31, "set r [set q [set p 1]]", "}")).fails("too deep", nest("eval {", 31, "set r [eval {set q 1}]", "}"))
            .fine("1", nest("eval {", 30, "set r [eval {set q [set p 1]}]", "}")).fine("1", nest("eval {", 30, "expr {[set q 1]}", "}"));
    }

    private static void deepOwnError() {
        Talk talk = Talk.about("too deep (the script's, or the expression's, own error)");
        talk.fine("1 {too deep}", nest("eval {", 31, "list [catch {set x 1} m] $m", "}"))
            .fine("0 1", nest("eval {", 30, "list [catch {set x 1} m] $m", "}"))
            .fine("1 {too deep}", nest("eval {", 30, "list [catch {expr 1} m] $m", "}"))
            .fine("0 1", nest("eval {", 29, "list [catch {expr 1} m] $m", "}"));
        talk.fine("1 {too deep}", nest("eval {", 30, "list [catch {eval {}} m] $m", "}"))
            .fine("0 {}", nest("eval {", 29, "list [catch {eval {}} m] $m", "}"));
    }

    private static void manyVariables() {
        Talk talk = Talk.about("More than 128 variables in all frames together: too many variables.");
        String most = "for {set i 1} {$i < 128} {incr i} {set v$i $i}; ";
        talk.fine("127", most + "set v127").fails("too many variables", most + "set w 1").fine("2", most + "set v1 2")
            .fine("too many variables 0 127", most + "unset v1; set m 0; catch {set u 1} m; concat $m [info exists u] $v127");
        String[] puts = {"set w 1", "incr w", "append w", "lappend w a", "foreach w a {}", "catch {} w", "proc f a {}; f 1", "proc f args {}; f",
            "proc f {{a 1}} {}; f", "proc f {} {set a 1}; f", "spawn; expect {} {}", "upvar 0 v1 w", "proc f {} {global v1}; f",
            "proc f {} {upvar v1 w}; f"};
        for (String put : puts) {
            talk.fails("too many variables", most + put).fine("1", most + "catch {" + put + "}; llength [set i]");
            Talk.check("room for " + put, talk.run(most + "unset v7; " + put), 0);
        }
        talk.fine("1", most + "unset v7; proc f a {set a}; f 1; f 1; f 1").fine("128", most + "set i")
            .fails("too many variables", most + "unset v7; proc f {a b} {}; f 1 2").fine("2", most + "unset v7; catch {set w 1}; unset w; set u 2");
        talk.fails("too many variables", "proc f n {set a 1; set b 2; set c 3; set d 4; set e 5; set g 6; set h 7; set i 8; f $n}; f 1");
    }

    private static void manyLinks() {
        Talk talk = Talk.about("More than 128 variables (links too): too many variables.");
        String most = "for {set i 1} {$i < 128} {incr i} {upvar 0 o v$i}; ";
        talk.fine("128", most + "set i").fails("too many variables", most + "set o 1").fails("too many variables", most + "set v1 1")
            .fails("too many variables", most + "upvar 0 o w").fine("", most + "upvar 0 i v1").fine("", most + "upvar 0 o o")
            .fine("0", most + "info exists v1");
        talk.fine("1", "for {set i 1} {$i < 127} {incr i} {upvar 0 o v$i}; set v1 1; set v126")
            .fails("too many variables", "for {set i 1} {$i < 127} {incr i} {upvar 0 o v$i}; set v1 1; set w 1");
    }

    private static void manyProcedures() {
        Talk talk = Talk.about("More than 32 procedures: too many procedures.");
        String most = "for {set i 0} {$i < 32} {incr i} {proc p$i {} {set x $i}}; ";
        talk.fine("32", most + "llength [info procs]").refuses("too many procedures", most + "proc q {} {}", "32", "llength [info procs]")
            .fine("5", most + "proc p31 {} {set x 5}; p31").fails("no such command: q", most + "catch {proc q {} {}}; q")
            .fine("5", most + "catch {proc q {} {}}; proc p0 {} {set x 5}; p0");
    }

    private static void errorsAsAny() {
        Talk talk = Talk.about("These are errors as any.");
        talk.fine("1 {too long}", "list [catch {string repeat a 1025} m] $m").fine("1 {too deep}", "set e {eval $e}; list [catch {eval $e} m] $m")
            .fine("1 {too many variables}", "set m 0; list [catch {while 1 {set v[incr i] 1}} m] $m")
            .fine("1 {too many procedures}", "list [catch {while 1 {proc p[incr i] {} {}}} m] $m");
        talk.fine("2", "catch {string repeat a 1025}; set x 2").gives(1, "too long", "proc f {} {string repeat a 1025}; f; set x 1");
    }

    private static void cutMessages() {
        Talk talk = Talk.about("(A message is cut to 1024 bytes.)");
        talk.fails("no such command: " + "a".repeat(1007), SET_MOST + "$x").fails("no such command: " + "b".repeat(1007), "b".repeat(1007))
            .fails("no such command: " + "b".repeat(1007), "b".repeat(1008)).fails("no such variable: " + "a".repeat(1006), SET_MOST + "set $x")
            .fails("not an integer: " + "a".repeat(1008), SET_MOST + "incr x");
        talk.fails("bad option: " + "a".repeat(1012), SET_MOST + "string $x").fails("bad expression: " + "a".repeat(1008), SET_MOST + "expr $x")
            .fails("no such variable: " + "b".repeat(1006), "set x $" + "b".repeat(2000))
            .fails("no such level: " + "a".repeat(1009), SET_MOST + "upvar $x a b")
            .fails("bad code: " + "a".repeat(1014), SET_MOST + "return -code $x");
        talk.fails("wrong number of words: " + "b".repeat(1001), "proc [string repeat b 1024] {} {}; [string repeat b 1024] 1")
            .fails("no body: " + "a".repeat(1015), "set x [string repeat a 1019]; switch $x $x -")
            .fails("bad argument: " + "a ".repeat(505), "proc f [list [string repeat {a } 511]] {}")
            .fails("variable is there: " + "a".repeat(1005), "set y [string repeat a 1024]; set $y 1; upvar 0 b $y");
        talk.fails("bad format: %q" + "a".repeat(1010), "format %q[string repeat a 1022]").fails(MOST, SET_MOST + "error $x");
    }

    private static void emptyNames() {
        Talk talk = Talk.about("nothing is put into a variable with an empty name (no such variable: and nothing behind)");
        String[] puts = {"set {} 1", "incr {}", "incr {} 4", "append {} a", "append {}", "lappend {} a", "lappend {}", "foreach {} a {}",
            "catch {} {}", "proc f {{{} 1}} {}; f", "proc f {{{}}} {}; f 1"};
        for (String put : puts) {
            talk.fails("no such variable: ", put).fine("0", "catch {" + put + "}; info exists {}");
        }
        talk.fails("no such variable: ", "set {}").fails("no such variable: ", "set x ${}").fails("no such variable: ", "unset {}")
            .fine("", "foreach {} {} {}").fails("not an integer: a", "incr {} a");
    }

    private static void emptyLinks() {
        Talk talk = Talk.about("(by a link neither), and no link has one");
        talk.fails("no such variable: ", "upvar 0 a {}").fails("no such variable: ", "proc f {} {global {}}; f")
            .fails("no such variable: ", "proc f {} {upvar {} {}}; f").fine("", "global {}")
            .fine("0", "catch {upvar 0 a {}}; set a 1; info exists {}");
        for (String put : new String[] {"set a 1", "incr a", "append a b", "lappend a b", "foreach a b {}", "catch {} a"}) {
            talk.fails("no such variable: ", "upvar 0 {} a; " + put).fine("0", "upvar 0 {} a; catch {" + put + "}; info exists a");
        }
        talk.fails("no such variable: a", "upvar 0 {} a; set a").fails("no such variable: a", "upvar 0 {} a; set x $a")
            .fails("no such variable: a", "upvar 0 {} a; unset a").fine("", "upvar 0 {} a");
        talk.fails("no such variable: ", "spawn; upvar 0 {} expect_out; expect {} {}");
    }

    private static void absentVariables() {
        Talk talk = Talk.about("A variable that isn't there: no such variable: NAME (as the command says it).");
        talk.fails("no such variable: a", "set a").fails("no such variable: a", "set x $a").fails("no such variable: a b", "set x ${a b}")
            .fails("no such variable: a(b c)", "set x $a(b c)").fails("no such variable: a(1)", "set b 1; set x $a($b)")
            .fails("no such variable: a", "unset a").fails("no such variable: a", "expr {$a}");
        talk.fails("no such variable: y", "proc f {} {upvar x y; set y}; f").fails("no such variable: y", "proc f {} {upvar x y; unset y}; f")
            .fails("no such variable: y", "proc f {} {upvar x y; set z $y}; f").fails("no such variable: a", "set a 1; unset a; set a")
            .fails("no such variable: a", "proc f {} {set a}; set a 1; f");
        talk.fails("no such variable: A", "set a 1; set A").fails("no such variable: a ", "set a 1; set {a }");
    }

    private static void links() {
        Talk talk = Talk.about("A LINK is a variable that is another one (by its frame and name, which need not be there; a link to a "
            + "link is one to where that leads).");
        talk.fine("1", "proc f {} {upvar x y; set y 1}; f; set x")
            .fine("0 1", "proc f {} {upvar x y; set r [info exists y]; set y 1; list $r [info exists y]}; f")
            .fine("5", "proc f {} {upvar x y; g}; proc g {} {upvar y z; set z 5}; f; set x").fine("5", "upvar 0 b a; upvar 0 c b; set a 5; set c");
        talk.fine("1 2", "upvar 0 b a; upvar 0 a c; upvar 0 d a; set c 1; set a 2; list $b $d")
            .fine("2", "proc f {} {upvar x y; unset y; set y 2}; set x 1; f; set x").fine("", "upvar 0 b a; upvar 0 a b")
            .fine("3", "upvar 0 b a; upvar 0 c b; set c 3; set a").fine("7", "upvar 0 b a; upvar 0 c b; catch {upvar 0 a c}; set a 7; set c");
    }
}
