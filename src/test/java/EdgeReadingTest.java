/** The boundary cases of READING: scripts, words, substitutions, and what can't be read. */
public final class EdgeReadingTest {
    public static void main(String[] args) {
        longestScript();
        blanks();
        backslashNewlines();
        emptyCommands();
        comments();
        braces();
        quotes();
        behindClosers();
        otherWords();
        dollars();
        indexes();
        anyNames();
        brackets();
        bracketCodes();
        escapes();
        hexadecimals();
        octals();
        once();
        readWhole();
        firstProblem();
        textEnd();
        wordsAside();
        depth();
        Talk.finish();
    }

    private static void longestScript() {
        Talk talk = Talk.about("the script of a run at most 4096");
        String filler = "#" + "a".repeat(4000) + "\n";
        String script = filler + " ".repeat(4096 - filler.length() - 7) + "set a 7";
        Talk.check("its length", script.length(), 4096);
        talk.fine("7", script).fails("missing close-brace", script.substring(0, 4095) + "{");
    }

    private static void blanks() {
        Talk talk = Talk.about("BLANKS are space (32) and tab (9), and a backslash with a newline (10) and all blanks behind it, in all "
            + "places");
        talk.fine("a b", "list a\tb").fine("a b", "list\t \ta  \t b \t").fine("a b", "\t list a b").fine("a b", "list a\\\nb")
            .fine("a b", "list a \\\n \t\\\n\\\n b");
        talk.fine("a b", "\\\n list a b").fine("a", "list a\\\n").fine("a", "list a \\\n \\\n").fine("a", "set x [list\\\na\\\n]")
            .fine("b", "list a;\\\n list b");
        talk.fine("{a } b", "list {a }\\\nb").fine("{a } b", "list \"a \"\\\nb").fine("2", "set x 1\n\\\nset x 2")
            .fails("no such command: a", "set x 1\\\n\na");
        talk.fails("no such command: b", "list a\\\\\nb").fine("{a b} c", "list a\\ b c").fine("{a\tb} c", "list a\\\tb c");
        for (int other : new int[] {0, 1, 8, 11, 12, 13, 14, 31, 33, 127, 128, 160, 255}) {
            String word = "a" + (char) other + "b";
            talk.fine(word, "set x " + word);
        }
    }

    private static void backslashNewlines() {
        Talk talk = Talk.about("in braces, quotes and INDEXES a backslash newline with all blanks behind it is one space, other blanks "
            + "stay; in ${ANY} they are themselves");
        talk.fine("a b", "set x {a\\\nb}").fine("a b", "set x {a\\\n \t b}").fine("a b", "set x {a\\\n \\\n\t\\\nb}").fine("a \tb", "set x {a \tb}")
            .fine("a  b", "set x {a \\\nb}");
        talk.fine(" ", "set x {\\\n}").fine(" ", "set x {\\\n  }").fine("a\nb", "set x {a\nb}").fine(" \nb", "set x {\\\n\nb}")
            .fine("\\\\\nb", "set x {\\\\\nb}");
        talk.fine("a b", "set x \"a\\\nb\"").fine("a b", "set x \"a\\\n \t b\"").fine("a b", "set x \"a\\\n \\\n\t\\\nb\"")
            .fine("a \tb", "set x \"a \tb\"").fine("a  b", "set x \"a \\\nb\"");
        talk.fine(" ", "set x \"\\\n\"").fine("\\\nb", "set x \"\\\\\nb\"").fine(" \nb", "set x \"\\\n\nb\"");
        talk.fine("1", "set {a(b c)} 1; set x $a(b\\\nc)").fine("1", "set {a(b c)} 1; set x $a(b\\\n \\\n\tc)")
            .fine("1", "set {a( )} 1; set x $a(\\\n)").fine("1", "set \"a(b \\tc)\" 1; set x $a(b \tc)");
        talk.fine("1", "set \"a\\\\\\n b\" 1; set x ${a\\\n b}").fine("1", "set \"a\\tb \" 1; set x ${a\tb }")
            .fails("no such variable: a\\\nb", "set {a b} 1; set x ${a\\\nb}");
    }

    private static void emptyCommands() {
        Talk talk = Talk.about("A script is COMMANDS parted by newlines or ; ; one without words is none.");
        talk.costs(0, "").costs(0, ";").costs(0, "\n").costs(0, " ;\t;\n\n ; \\\n ;").costs(1, ";;set a 1;;").costs(2, "set a 1\nset b 2")
            .costs(2, "set a 1;set b 2");
        talk.fine("", ";").fine("", "\n \n").fine("1", "set a 1;").fine("1", "set a 1;;\n;").fine("1", ";\n;set a 1").fine("", "set a [;]")
            .fine("1", "set a [;set b 1;;]").fine("", "eval {;}");
    }

    private static void comments() {
        Talk talk = Talk.about("# as the first byte of a command begins a COMMENT up to a newline (a backslash and the byte behind it "
            + "are passed over)");
        talk.costs(0, "#").costs(0, "# set a 1").costs(0, " \t#;set a 1;").costs(0, "#\\").costs(0, "# a\\\nset a 1").costs(1, "# a\\\\\nset a 1")
            .costs(1, "#\nset a 1").costs(0, "# { [ \" $a(");
        talk.costs(1, ";#x\nset a 1").costs(0, "# a\\\n b\\\n c").costs(1, "\\\n# a\nset b 1").fine("#", "set a #").fine("#b", "set a #b")
            .fails("no such command: a#", "a#").fails("no such command: #", "{#}");
        talk.fails("no such command: #", "\\#").fine("1", "set x [set y 1;# ]\n]").fails("missing close-bracket", "set x [# ]")
            .fine("", "set x [#\n]").fine("1", "set x [# a\\\n ]\nset y 1]");
    }

    private static void braces() {
        Talk talk = Talk.about("A word that begins with { ends at its } : braces in it are counted, a backslash and the byte behind it "
            + "are passed over; its text is all between.");
        talk.fine("", "set x {}").fine("{}", "set x {{}}").fine("{a{b}}", "set x {{a{b}}}").fine("\\}", "set x {\\}}").fine("\\{", "set x {\\{}")
            .fine("\\\\", "set x {\\\\}").fine("\\\\{}", "set x {\\\\{}}");
        talk.fine("a;b\nc]\"d[e$f", "set x {a;b\nc]\"d[e$f}").fine("\\x41\\n", "set x {\\x41\\n}").fine("# ", "set x {# }")
            .fails("missing close-brace", "set x {").fails("missing close-brace", "set x {{}");
        talk.fails("missing close-brace", "set x {\\}").fails("missing close-brace", "set x {a\\")
            .fails("extra characters after close-brace", "set x {}}");
    }

    private static void quotes() {
        Talk talk = Talk.about("One that begins with \" ends at the next \" that is not in a SUBSTITUTION nor behind a backslash.");
        talk.fine("", "set x \"\"").fine("\"", "set x \"\\\"\"").fine("a;b\nc]{d}", "set x \"a;b\nc]{d}\"").fine("a", "set x \"[set y \"a\"]\"")
            .fine("1", "set {a(\")} 1; set x \"$a(\")\"").fine("1", "set \\\" 1; set x \"${\"}\"");
        talk.fine("\\", "set x \"\\\\\"").fine("a{", "set x \"a{\"").fine("$", "set x \"$\"").fine("a\"b\"", "set x a\"b\"")
            .fails("missing close-quote", "set x \"").fails("missing close-quote", "set x \"\\\"").fails("missing close-quote", "set x \"a\\");
        talk.fine("{a b}", "list \"a b\"").fails("missing close-quote", "set x \"[set y a]");
    }

    private static void behindClosers() {
        Talk talk = Talk.about("Behind these must come a blank, newline, ; or the end (of the script, or ] where that ends it).");
        String[] words = {"{a}", "\"a\""};
        for (String word : words) {
            String extra = word.equals("{a}") ? "extra characters after close-brace" : "extra characters after close-quote";
            talk.fine("a", "set x " + word).fine("a", "set x " + word + " ").fine("a", "set x " + word + "\t").fine("a", "set x " + word + "\\\n")
                .fine("a", "set x " + word + "\n").fine("a", "set x " + word + ";");
            talk.fine("a", "set y [set x " + word + "]").fine("a", "set y [set x " + word + ";]").fine("a b", "list " + word + "\tb");
            for (String behind : new String[] {"b", "{b}", "\"b\"", "]", "$", "[list]", "\\", "\\ ", "}", "\13", "\r", "\0"}) {
                talk.fails(extra, "set x " + word + behind);
            }
            talk.fails(extra, "set y [set x " + word + "b]").fails(extra, "set y [set x " + word + "\"]")
                .fails(extra, "set y \"[set x " + word + "\"]\"");
        }
    }

    private static void otherWords() {
        Talk talk = Talk.about("Other words go up to a blank, newline, ; (or ] ).");
        talk.fine("a{b", "set x a{b").fine("a\"b", "set x a\"b").fine("a]b", "set x a]b").fine("]", "set x ]").fine("}", "set x }")
            .fine("a#b", "set x a#b").fine("a", "set x [set y a]").fine("a", "set x [set y a\n]");
        talk.fine("a b", "set x [set y a]\\ b").fine("a;b", "set x a\\;b").fine("a\nb", "set x a\\nb").fine("ab]", "set x [set y a]b]")
            .fine("a]", "set x [set y a\\]]").fine("a b", "set x \"[set y a] b\"");
    }

    private static void dollars() {
        Talk talk = Talk.about("$NAME (A .. Z, a .. z, digits, _ ; one or more, else $ is itself)");
        talk.fine("$", "set x $").fine("$", "set x \"$\"").fine("a$", "set x a$").fine("$$", "set x $$").fine("$1", "set a 1; set x $$a")
            .fine("$ $", "set x \"$ $\"").fine("$;", "set x \"$;\"").fine("$]", "set x \"$]\"").fine("$(a)", "set x $(a)");
        talk.fine("1{b", "set n 1; set x $n{b").fine("1$", "set n 1; set x $n$").fine("1\"", "set n 1; set x $n\"")
            .fine("1\n", "set n 1; set x $n\\n");
        for (int c = 1; c < 256; c++) {
            boolean named = c >= '0' && c <= '9' || c >= 'A' && c <= 'Z' || c >= 'a' && c <= 'z' || c == '_';
            if (c != '(' && c != '[' && c != '\\' && c != '"' && c != '$' && c != '{') {
                talk.fine(named ? "2" : "1" + (char) c, "set n 1; set n" + (named ? "" + (char) c : "x") + " 2; set x \"$n" + (char) c + "\"");
                talk.fine(named ? "1" : "$" + (char) c, "set " + (named ? "" + (char) c : "n") + " 1; set x \"$" + (char) c + "\"");
            }
        }
    }

    private static void indexes() {
        Talk talk = Talk.about("followed by ( INDEX ) if ( comes at once: INDEX up to the next ) (blanks, newlines, ; and ] are of it), "
            + "with substitutions, names the variable NAME(INDEX)");
        talk.fine("1", "set a() 1; set x $a()").fails("no such variable: a()", "set a 1; set x $a()").fine("1 (b)", "set a 1; set x \"$a (b)\"")
            .fine("1(b)", "set a 1; set x ${a}(b)").fine("1", "set {a( \t\n;])} 1; set x $a( \t\n;])");
        talk.fine("1", "set {a(]x)} 1; set x [set y $a(]x)]").fine("1", "set {a(\")} 1; set x $a(\")").fine("1", "set a({) 1; set x $a({)")
            .fine("1b)", "set a(() 1; set x $a(()b)").fine("1", "set {a())} 1; set x $a(\\))").fine("1", "set {a())} 1; set b ); set x $a($b)");
        talk.fine("1", "set {a())} 1; set x $a([set b )])").fine("1", "set {a(b)} 1; set {c())} b; set x $a($c(\\)))")
            .fine("1", "set a(A) 1; set x $a(\\x41)").fails("missing close-parenthesis", "set x $a(")
            .fails("missing close-parenthesis", "set x \"$a(\"");
        talk.fails("no such variable: b", "set x $a($b)").fails("no such variable: a(#)", "set x $a(#)")
            .fails("missing close-parenthesis", "set x $a(\\)").fine("1", "set a($) 1; set x $a($)");
    }

    private static void anyNames() {
        Talk talk = Talk.about("${ANY} up to } (none: missing close-brace): a variable's value.");
        talk.fails("no such variable: ", "set x ${}").fine("1", "set \"a b;\\n\\\"\\[\\$\" 1; set x ${a b;\n\"[$}")
            .fine("1}", "set \\{ 1; set x ${{}}").fine("1", "set a\\\\ 1; set x ${a\\}").fine("1b", "set a 1; set x ${a}b");
        talk.fails("missing close-brace", "set x ${").fails("missing close-brace", "set x ${a").fails("missing close-brace", "set x \"${a\"")
            .fails("missing close-brace", "set x [set y ${a]").fails("no such variable: a]", "set x [set y ${a]}]");
        talk.fails("no such variable: a(b)", "set x ${a(b)}").fine("1", "set a(b) 1; set x ${a(b)}");
    }

    private static void brackets() {
        Talk talk = Talk.about("[SCRIPT] : its commands up to ] ; the result of the last one (empty without any)");
        talk.fine("", "set x []").fine("", "set x [ ]").fine("", "set x [\n;\t]").fine("ab", "set x a[]b").fine("1", "set x [set y 1]")
            .fine("2", "set x [set y 1; set z 2]").fine("2", "set x [set y 1\nset z 2\n\n]").fine("", "set x [set y 1; list]");
        talk.fine("1", "set x [set y 1; # a\n]").fine("]", "set x [set y {]}]").fine("]", "set x [set y \"]\"]").fine("]", "set x [set y \\]]")
            .fails("no such command: ", "[]");
        talk.fine("1", "[set x set] y 1").fine("12", "set x [set y 1][set y 2]").costs(1, "set x []").costs(3, "set x [set y 1; set y 2]");
    }

    private static void bracketCodes() {
        Talk talk = Talk.about("a code of theirs but 0 ends the script in which the command stands, with that result");
        talk.fails("boo", "set x [error boo]").tells("\3a\n", "puts a; puts [error boo; puts b]; puts c").fine("r", "set x [return r]; set x 2")
            .fails("break outside of a loop", "set x [break]").fine("3", "catch {set x [break]}");
        talk.fine("r", "proc f {} {set x [return r]; set x 2}; f")
            .fine("3 x", "proc f {} {return -code 3 x}; list [catch {set y 1; set y [set z [f]]; set y 2} m] $m")
            .fine("1", "catch {set y 1; set y [error x]}; set y");
        talk.fine("1", "foreach i {1 2 3} {set x $i[break]}; set i").fine("3", "foreach i {1 2 3} {set x $i[continue]; set y 1}; set i");
    }

    private static void escapes() {
        Talk talk = Talk.about("A backslash and a byte: a 7, b 8, f 12, n 10, r 13, t 9, v 11; else the byte itself; at the text's end "
            + "itself.");
        String letters = "abfnrtv";
        String bytes = "\7\b\f\n\r\t\13";
        for (int c = 0; c < 256; c++) {
            boolean digit = c >= '0' && c <= '7';
            int letter = letters.indexOf((char) c);
            if (!digit && c != '\n') {
                talk.fine("" + (letter < 0 ? (char) c : bytes.charAt(letter)) + "g", "set x \\" + (char) c + "g");
            }
        }
        talk.fine("\\", "set x \\").fine("a\\", "set x a\\").fine("\\", "set x \\\\").fine("\\a", "set x \\\\a").fails("no such command: \\", "\\");
    }

    private static void hexadecimals() {
        Talk talk = Talk.about("x and one or two hexadecimal digits that byte");
        talk.fine("x", "set a \\x").fine("xg", "set a \\xg").fine("xG", "set a \\xG").fine("x/", "set a \\x/").fine("x:", "set a \\x:")
            .fine("x@", "set a \\x@").fine("x`", "set a \\x`").fine("\1", "set a \\x1").fine("\1g", "set a \\x1g");
        talk.fine("\0", "set a \\x00").fine("\u00ff", "set a \\xff").fine("\u00ff", "set a \\xFF").fine("\u00fa0", "set a \\xfa0")
            .fine("\u00affx", "set a \\xAffx").fine("\t", "set a \\x9").fine("\n", "set a \\xa").fine("\17", "set a \\xF").fine("X41", "set a \\X41");
        talk.fine("\4 1", "set a \"\\x4 1\"").fine("x", "set a \"\\x\"");
    }

    private static void octals() {
        Talk talk = Talk.about("one to three octal digits (of the number the lowest 8 bits)");
        talk.fine("\0", "set a \\0").fine("\7", "set a \\7").fine("8", "set a \\8").fine("9", "set a \\9").fine("\0018", "set a \\18")
            .fine("A", "set a \\101").fine("A1", "set a \\1011").fine("\10", "set a \\10").fine("\u00ff", "set a \\377").fine("\0", "set a \\400");
        talk.fine("\u00ff", "set a \\777").fine("\1", "set a \\401").fine("\0000", "set a \\0000").fine("\078", "set a \\078").fine("/", "set a \\/")
            .fine("\7x", "set a \\7x").fine("\0018", "set a \\0018");
    }

    private static void once() {
        Talk talk = Talk.about("are substituted, from the left, once");
        talk.fine("$b", "set b 1; set a {$b}; set x $a").fine("[set b 2]", "set b 1; set a {[set b 2]}; set x $a")
            .fine("\\n", "set a {\\n}; set x $a").fine("$a", "set a 1; set x \\$a").fine("$a", "set a 1; set x [format \\$]a");
        talk.fine("1 2 2", "set a 1; set x \"$a [set a 2] $a\"").fine("a b", "set x {a b}; lindex [list $x] 0")
            .fine("1", "set x {a b}; llength [list $x]").fine("1 2", "set i 0; list [incr i] [incr i]");
    }

    private static void readWhole() {
        Talk talk = Talk.about("A command is read whole, brackets in it, too (with all their commands), when its turn comes. If it "
            + "can't be: an error, nothing of it being run (and nothing behind it)");
        talk.tells("\3a\n", "puts a; puts [puts b] {; puts c").tells("\3a\n", "puts a\nputs [puts b; puts {c}d]\nputs e")
            .tells("\3a\n", "puts a; puts [puts b; set x [puts c; \"]]").tells("\3a\n", "eval {puts a; puts [puts b]$b(}");
        Talk.check("code", talk.run("set a 1; set a [set a 2] \"", 10), 1);
        Talk.check("fuel", talk.tongue.fuel(), 9);
        talk.fine("1 {missing close-bracket} 1", "list [catch {set a 1; set a [set a 2] [} m] $m $a").fine("2", "if 0 {\"a} else {set x 2}")
            .fine("1", "proc f {} {\"a}; set x 1");
        talk.refuses("missing close-quote", "eval {set y 1; set y \"a}", "1", "set y");
    }

    private static void firstProblem() {
        Talk talk = Talk.about("the first of missing close-brace, ... too deep, as it is met in reading");
        String deep = "[".repeat(9);
        talk.fails("extra characters after close-brace", "set a {b}c \"").fails("extra characters after close-quote", "set a \"b\"c {")
            .fails("extra characters after close-brace", "set a [{b}c").fails("extra characters after close-quote", "set a \"[\"b\"c");
        talk.fails("too deep", deep + "{a}b").fails("extra characters after close-brace", "{a}b" + deep)
            .fails("extra characters after close-quote", "set x \"a\"" + deep).fails("too deep", "set x a" + deep + "{")
            .fails("missing close-brace", "set x {" + deep);
        talk.fails("missing close-brace", "set x ${a" + deep).fails("too deep", "set x \"" + deep).fails("too deep", "set x $a(" + deep);
    }

    private static void textEnd() {
        Talk talk = Talk.about("at the text's end that of what was opened last");
        talk.fails("missing close-bracket", "set a \"[b").fails("missing close-quote", "set a [b \"c").fails("missing close-brace", "set a \"[b {c")
            .fails("missing close-parenthesis", "set a [b $c(d").fails("missing close-bracket", "set a $b([c");
        talk.fails("missing close-brace", "set a [b $c(${d").fails("missing close-parenthesis", "set a \"$b(")
            .fails("missing close-bracket", "set a [b {c}").fails("missing close-bracket", "set a [b \"c\"")
            .fails("missing close-quote", "set a \"[b]");
        talk.fails("missing close-bracket", "set a [b $c(d)").fails("missing close-parenthesis", "set a $b([c]").fails("missing close-bracket", "[")
            .fails("missing close-quote", "\"").fails("missing close-brace", "{").fails("missing close-bracket", "set a [b; # c]");
    }

    /** A script that is a word of catch, with another word behind it that would go on with it. */
    private static void ends(Talk talk, String due, String script, String behind) {
        talk.fine(due, "set a 1; set ab 2; set a(b) 3; set x -; set c [catch " + Talk.word(script) + " " + Talk.word(behind) + "]; list $c $x");
    }

    private static void wordsAside() {
        Talk talk = Talk.about("the end (of the script); at the text's end itself (what lies behind a text is not of it)");
        ends(talk, "0 {$}", "set x $", "{a}");
        ends(talk, "0 {$}", "set x $", "a");
        ends(talk, "0 1", "set x $a", "b");
        ends(talk, "0 1", "set x $a", "(b)");
        ends(talk, "0 \\\\", "set x \\", "\n");
        ends(talk, "0 \\\\", "set x \\", "n");
        ends(talk, "0 \4", "set x \\x4", "1");
        ends(talk, "0 \4", "set x \\4", "1");
        ends(talk, "0 x", "set x \\x", "1");
        ends(talk, "1 -", "set x \"b", "\"");
        ends(talk, "1 -", "set x [set y 1", "]");
        ends(talk, "1 -", "set x ${a", "}");
        ends(talk, "1 -", "set x {b", "}");
        ends(talk, "1 -", "set x $a(b", ")");
        ends(talk, "0 b", "set x {b}", "c");
        ends(talk, "0 b", "set x \"b\"", "c");
        ends(talk, "0 b", "set x b", "c");
        ends(talk, "0 b", "set x b ", "c");
        ends(talk, "0 b", "set x b;", "c");
        ends(talk, "0 b", "set x b\n", "c");
        ends(talk, "0 b", "set x b;#", "\nerror");
        ends(talk, "0 b", "set x b;# \\", "\nerror");
        ends(talk, "0 -", "", "error");
        ends(talk, "0 -", " ;", "error");
    }

    private static String nest(String open, int depth, String core, String close) {
        return "set x " + open.repeat(depth) + core + close.repeat(depth);
    }

    private static void depth() {
        Talk talk = Talk.about("too deep (more than 8 brackets and INDEXES within one another)");
        talk.fine("1", nest("[set y ", 8, "1", "]")).fails("too deep", nest("[set y ", 9, "1", "]"))
            .fine("1", "set a(1) 1; " + nest("$a(", 8, "1", ")")).fails("too deep", "set a(1) 1; " + nest("$a(", 9, "1", ")"));
        talk.fine("1", "set a(1) 1; " + nest("[set y $a(", 4, "1", ")]")).fails("too deep", "set a(1) 1; " + nest("[set y $a(", 4, "[set y 1]", ")]"))
            .fails("too deep", "set a(1) 1; " + nest("[set y $a(", 4, "$a(1)", ")]"));
        talk.fine("1", "set a(1) 1; set x \"" + "[set y \"".repeat(8) + "1" + "\"]".repeat(8) + "\"")
            .fine("11111111111", "set x " + "[set y 1]".repeat(11)).fails("missing close-bracket", "[".repeat(8)).fails("too deep", "[".repeat(9));
        talk.fine("[[[[[[[[[[", "set x {[[[[[[[[[[}").fine("1", "set x [eval {" + nest("[set y ", 8, "1", "]") + "}]")
            .fine("1", "set x [set y {" + "[".repeat(9) + "}]; set x 1").fine("((((((((((", "set x ((((((((((");
        talk.tells("\3a\n", "puts a; puts [puts b]" + "[".repeat(9))
            .refuses("too deep", "set y [" + nest("[set y ", 8, "1", "]").substring(6) + "]", "0", "info exists y")
            .fine("1", nest("[set y ", 8, "1", "]"));
    }
}
