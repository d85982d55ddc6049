/** How scripts are read: words, substitutions, comments, lists, and what can't be read. */
public final class ReadingTest {
    public static void main(String[] args) {
        words();
        substitutions();
        backslashes();
        blanksAndComments();
        brackets();
        unreadable();
        depth();
        Talk.finish();
    }

    private static void words() {
        Talk talk = new Talk();
        talk.fine("a b {c d} {}", "list a b {c d} {}");
        talk.fine("{a \"b} c", "list \"a \\\"b\" c");
        talk.fine("{a\"b} c\\{d e\\}f", "list a\"b c{d e}f");
        talk.fine("{a {b} c}", "list {a {b} c}");
        talk.fine("a\\}b", "set x {a\\}b}");
        talk.fine("\\{", "set x {\\{}");
        talk.fine("]", "set x ]");
        talk.fine("a]b", "set x a]b");
        talk.fine("", "").fine("", "\n;; ;\n").fine("", "list");
        talk.fails("no such command: {", "\\{");
        talk.fails("no such command: ", "{}").fails("no such command: ", "\"\"");
        talk.fine("*", "proc {} x {set x}; {} *");
        talk.fails("no such command: \0\0\0\0set", " \0\0\0\0set b");
        talk.fine("\u00ff\0", "set x \u00ff\0");
    }

    private static void substitutions() {
        Talk talk = new Talk();
        talk.fine("5", "set a 5; set b $a").fine("x5y", "set a 5; set b x${a}y");
        talk.fine("$", "set a $").fine("$ $- a$", "set a \"$ $- a$\"").fine("$(x)", "set a $(x)");
        talk.fine("1", "set azAZ09_ 1; set x $azAZ09_").fine("1@", "set z 1; set x $z@").fine("1[", "set Z 1; set x $Z\\[")
            .fine("1:/`{", "set a9 1; set x $a9:/`\\{");
        talk.fine("7", "set a_1Z 7; set b $a_1Z").fine("7-x", "set a 7; set b $a-x");
        talk.fine("v", "set a(b) v; set c $a(b)").fine("v", "set a(b) v; set b b; set c $a($b)");
        talk.fine("v", "set a(b) v; set c $a([set x b])").fine("v", "set {a(b c;\n])} v; set x $a(b c;\n])");
        talk.fine("vd)", "set a(b(c) v; set x $a(b(c)d)").fine("v", "set {a())} v; set x $a(\\))");
        talk.fine("v", "set a(1) 2; set b(2) v; set x $b($a(1))");
        talk.fine("v", "set {a b} v; set x ${a b}").fine("v", "set \"a\\nb\" v; set x ${a\nb}");
        talk.fine("v", "set {a\\nb} v; set x ${a\\nb}").fine("v", "set \"a\\\\\\n b\" v; set x ${a\\\n b}");
        talk.fails("no such variable: ", "set x ${}").fails("no such variable: b", "set x $b");
        talk.fails("no such variable: a(b)", "set a 1; set x $a(b)").fails("no such variable: a()", "set x $a()");
        talk.fine("$a", "set a 5; set b {$a}").fine("$b", "set a {$b}; set c $a").fine("[x]", "set a {[x]}; set c $a");
        talk.fine("a\"b", "set x(\") b; set y \"a\\\"$x(\")\"");
    }

    private static void backslashes() {
        Talk talk = new Talk();
        talk.fine("\7\b\f\n\r\t\13", "set x \\a\\b\\f\\n\\r\\t\\v");
        talk.fine("AA1\n\u00ffg", "set x \\x41\\x411\\xa\\xFFg");
        talk.fine("\u00a1\u00af\u00fa", "set x \\xA1\\xAf\\xfA").fine("11", "set y \"[eval {set x 1}]$x\"");
        talk.fine("xg", "set x \\xg").fine("A81", "set x \\1018\\61").fine("\u00ff\0", "set x \\377\\400");
        talk.fine("8q ;$[", "set x \\8\\q\\ \\;\\$\\[").fine("a\\", "set x a\\");
        talk.fine("\\n", "set x {\\n}").fine("a b", "set x \"a\\\n   \t b\"").fine("a b", "set x {a\\\n   b}");
        talk.fine("a b", "set x {a\\\n \\\n  b}").fine("a  b", "set x {a \\\n b}").fine("a\\\\\nb", "set x {a\\\\\nb}");
        talk.fine("v", "set {a(b c)} v; set x $a(b\\\n  c)");
    }

    private static void blanksAndComments() {
        Talk talk = new Talk();
        talk.fine("a b", "list\ta \\\n  \\\n\t b").fine("a b", " \\\n list a\\\nb");
        talk.fine("{a } b", "list {a }\\\nb").fine("a b", "list \"a\"\\\nb");
        talk.fine("1", "# set x 2 \\\n set x 3\nset x 1").fine("", "# x").fine("", "# x\\").fine("2", "set x 1;#y\nset x 2");
        talk.fine("1", "set x 1 \\\n").fine("a", "list a\\\n").fine("2", "set x 1\n# a\\\\\nset x 2");
        talk.fine("#", "set x #").fine("1", "set x [# ]\nset y 1]").fails("missing close-bracket", "set x [# ]");
        talk.fails("no such command: x#", "x#").fine("5", "; # a ; set x 3\n ;set x 5;");
    }

    private static void brackets() {
        Talk talk = new Talk();
        talk.fine("", "set x []").fine("", "set x [\n; ]").fine("2", "set x [set y 1; set z 2]");
        talk.fine("12", "set x [set y 1][set z 2]").fine("a]b", "set x [set y \"a]b\"]").fine("]", "set x [set y {]}]");
        talk.fine("a b", "set x [list \\\n a [set y b]]").fine("1", "set x [set {y} 1 ]").fine("1", "set x [set y {1}]");
        talk.fine("1", "set x \"[set y \"1\"]\"").fails("boo", "set x [error boo]; puts a").tells("", "set x [error boo]; puts a");
        talk.fine("x", "set y [return x]; puts a").tells("\3a\n", "set y [puts a; return x; puts b]; puts c");
        talk.fine("0", "set i 0; while {$i < 5} {list $i [break]; incr i}; set i");
    }

    private static void unreadable() {
        Talk talk = new Talk();
        talk.fails("missing close-brace", "set a {b").fails("missing close-brace", "set a {b\\}");
        talk.fails("missing close-quote", "set a \"b").fails("missing close-quote", "set a \"b\\\"");
        talk.fails("missing close-bracket", "set a [b").fails("missing close-bracket", "set a [b\\]");
        talk.fails("missing close-parenthesis", "set a $b(c").fails("missing close-brace", "set a ${b");
        talk.fails("extra characters after close-brace", "set a {b}c").fails("extra characters after close-brace", "set a {b}]");
        talk.fails("extra characters after close-quote", "set a \"b\"c");
        talk.fails("extra characters after close-brace", "set a [set b {c}d").fine("c", "set a [set b {c}]");
        talk.fails("missing close-quote", "set a [b \"c").fails("missing close-bracket", "set a \"x[b c");
        talk.fails("missing close-brace", "set a \"x[b {c").fails("missing close-parenthesis", "set a [b $c(\"");
        talk.fails("extra characters after close-quote", "list \"a\"b {c");
        talk.tells("\3a\n", "puts a; puts [puts b] {c").fails("missing close-brace", "puts a; puts [puts b] {c");
        talk.tells("\3a\n", "puts a; set x [puts b; set {]}{]; puts c");
        Talk.check("nothing of it takes fuel", talk.run("list [set a 1] {", 10) + talk.tongue.fuel(), 11);
        talk.fine("1 {missing close-quote}", "list [catch {set a \"b} m] $m");
        talk.fails("bad list", "llength \"\\{a\"").fails("bad list", "llength {{a}b}").fails("bad list", "llength {\"a\"b}");
        talk.fails("bad list", "llength {\"a}");
        talk.fine("3", "llength \"a\\13b\\14c\\15\"").fine("1", "llength {a\\ b}").fine("a b", "lindex \"a\\\\\\n  b\" 0");
        talk.fine("a\\\nb", "lindex \"{a\\\\\\nb}\" 0");
    }

    private static void depth() {
        Talk talk = new Talk();
        talk.fine("1", nest("[set y ", 8, "1"));
        talk.fails("too deep", nest("[set y ", 9, "1"));
        talk.fails("too deep", "[".repeat(9));
        talk.fails("missing close-bracket", "[".repeat(8));
        talk.fine("1", "set a(1) 1; set x " + "$a(".repeat(8) + "1" + ")".repeat(8));
        talk.fails("too deep", "set a(1) 1; set x " + "$a(".repeat(9) + "1" + ")".repeat(9));
        talk.fails("too deep", "set x " + "[set y $a(".repeat(4) + "$b(1)" + ")]".repeat(4));
        talk.fine("1", "set x [eval {" + nest("[set y ", 8, "1") + "}]");
        talk.tells("\3a\n", "puts a; puts [puts b]" + "[".repeat(9));
    }

    private static String nest(String open, int depth, String core) {
        return "set x " + open.repeat(depth) + core + "]".repeat(depth);
    }
}
