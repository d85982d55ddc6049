/** The boundary cases of LISTS as texts: how elements are read, and how they are written. */
public final class EdgeElementTest {
    public static void main(String[] args) {
        parting();
        bracedElements();
        quotedElements();
        otherElements();
        escapesAtEnd();
        wordsAside();
        behindClosers();
        backslashNewlines();
        unreadable();
        emptyElements();
        plainBytes();
        beginnings();
        balanced();
        backslashes();
        several();
        Talk.finish();
    }

    /** A script that answers the elements of a list, each between < and >. */
    private static String elements(String list) {
        return "set s {}; foreach e " + Talk.word(list) + " {append s < $e >}; set s";
    }

    private static void parting() {
        Talk talk = Talk.about("ELEMENTS parted by blanks, newlines, 11, 12, 13 (a backslash newline is none)");
        for (int c = 0; c < 256; c++) {
            boolean parts = c == 32 || c >= 9 && c <= 13;
            if (c != '\\') {
                talk.fine(parts ? "<a><b>" : "<a" + (char) c + "b>", elements("a" + (char) c + "b"));
            }
        }
        talk.fine("", elements("")).fine("", elements(" \t\n\13\f\r")).fine("<a>", elements(" \t\n\13\f\ra\r\f\13\n\t "))
            .fine("<a b>", elements("a\\\nb")).fine("< a>", elements("\\\na")).fine("<a >", elements("a\\\n")).fine("< >", elements("\\\n"));
    }

    private static void bracedElements() {
        Talk talk = Talk.about("{...} as above (its text all between, nothing in it changed)");
        talk.fine("<>", elements("{}")).fine("<{}>", elements("{{}}")).fine("<a {b c} d>", elements("{a {b c} d}")).fine("<\\{>", elements("{\\{}"))
            .fine("<\\}>", elements("{\\}}")).fine("<\\\\>", elements("{\\\\}")).fine("<\\n\\x41>", elements("{\\n\\x41}"));
        talk.fine("<a\\\n b>", elements("{a\\\n b}")).fine("<\"$x[y];>", elements("{\"$x[y];}")).fails("bad list", elements("{"))
            .fails("bad list", elements("{{}")).fails("bad list", elements("{\\}")).fails("bad list", elements("{a\\"))
            .fails("bad list", elements("{}}"));
    }

    private static void quotedElements() {
        Talk talk = Talk.about("\"...\" up to the next \" not behind a backslash; backslashes as above");
        talk.fine("<>", elements("\"\"")).fine("<a b>", elements("\"a b\"")).fine("<\">", elements("\"\\\"\"")).fine("<\\>", elements("\"\\\\\""))
            .fine("<{>", elements("\"{\"")).fine("<\nA\1>", elements("\"\\n\\x41\\1\"")).fine("<$x[y]>", elements("\"$x[y]\""));
        talk.fine("<a b>", elements("\"a\\\n \t b\"")).fails("bad list", elements("\"")).fails("bad list", elements("\"a"))
            .fails("bad list", elements("\"\\\"")).fails("bad list", elements("\"a\\"));
    }

    private static void otherElements() {
        Talk talk = Talk.about("others; in the latter two backslashes as above");
        talk.fine("<a{b><c}d>", elements("a{b c}d")).fine("<a\"b>", elements("a\"b")).fine("<}>", elements("}")).fine("<]><[>", elements("] ["))
            .fine("<$a>", elements("$a")).fine("<#>", elements("#")).fine("<a b>", elements("a\\ b")).fine("<\t>", elements("\\t"));
        talk.fine("<{>", elements("\\{")).fine("<\">", elements("\\\"")).fine("<\\>", elements("\\")).fine("<a\\>", elements("a\\"))
            .fine("<\u00ff\0>", elements("\\377\\400")).fine("<A1><xg>", elements("\\x411 \\xg"));
    }

    private static void escapesAtEnd() {
        Talk talk = Talk.about("backslashes as above: one or two hexadecimal digits, one to three octal digits (of the text alone, not "
            + "of what lies behind it)");
        talk.fine("\4", "lindex {\\x4} 0").fine("\4", "lindex {\\4} 0").fine("x", "lindex {\\x} 0").fine("\\", "lindex \\\\ 0")
            .fine("\4", "catch {set x \\x4} 1; set x")
            .fine("\4", "catch {set x \\4} 1; set x").fine("\\", "catch {set x [format %s \\\\]} 1; set x").fine("\4", "lindex \"a \\\\x4\" 1");
    }

    /** A list that is a word of join, with another word behind it that would go on with it. */
    private static void wordsAside() {
        Talk talk = Talk.about("or the end (what lies behind a list is not of it)");
        String[][] lists = {{"a b", "c", "acb"}, {"a {b}", "c", "acb"}, {"a \"b\"", "c", "acb"}, {"a b\\", "\n", "a\nb\\"}, {"a b\\", "n", "anb\\"},
            {"a b\\x4", "1", "a1b\4"}, {"a b\\4", "1", "a1b\4"}, {"a b\\x", "1", "a1bx"}, {"a b\\\n", " ", "a b "}, {"a b ", "c", "acb"}, {"", "c", ""}};
        for (String[] list : lists) {
            talk.fine(list[2], "join " + Talk.word(list[0]) + " " + Talk.word(list[1]));
        }
        talk.fails("bad list", "join \\{a \\}").fails("bad list", "join \"\\\"a\" \\\"").fails("bad list", "join \"{a\\\\\" \\}}")
            .fails("bad list", "join \"\\\"a\\\\\" \\\"\\\"");
    }

    private static void behindClosers() {
        Talk talk = Talk.about("Behind } or \" must come one of those or the end.");
        for (String element : new String[] {"{a}", "\"a\""}) {
            for (int c = 0; c < 256; c++) {
                boolean parts = c == 32 || c >= 9 && c <= 13;
                if (parts) {
                    talk.fine("<a><b>", elements(element + (char) c + "b"));
                } else {
                    talk.fails("bad list", "llength " + Talk.word(element + (char) c));
                }
            }
            talk.fine("<a>", elements(element)).fails("bad list", elements(element + "\\\nb")).fails("bad list", elements(element + "\\\n"));
        }
    }

    private static void backslashNewlines() {
        Talk talk = Talk.about("A backslash newline with all bytes 32 and 9 behind it is one 32 in an element that isn't in braces.");
        talk.fine("<a b>", elements("a\\\nb")).fine("<a b>", elements("a\\\n \t b")).fine("<a ><b>", elements("a\\\n\nb"))
            .fine("<a  b>", elements("a\\\n \\\nb")).fine("<a >", elements("a\\\n  ")).fine("<a ><b>", elements("a\\\n\rb"))
            .fine("<a b>", elements("\"a\\\n\tb\""));
        talk.fine("<a\\\n\tb>", elements("{a\\\n\tb}")).fine("<a\\><b>", elements("a\\\\\nb"));
    }

    private static void unreadable() {
        Talk talk = Talk.about("What can't be read is the error bad list.");
        for (String bad : new String[] {"{", "a {", "{a}b", "\"a", "\"a\"b", "{a} \"b\"c", "{a\\}"}) {
            String word = Talk.word(bad);
            talk.fails("bad list", "llength " + word).fails("bad list", "lindex " + word + " 0").fails("bad list", "foreach x " + word + " {}")
                .fails("bad list", "join " + word).fails("bad list", "set l " + word + "; lappend l").fails("bad list", "lsort " + word);
            talk.fails("bad list", "lrange " + word + " 0 0").fails("bad list", "linsert " + word + " 0")
                .fails("bad list", "lreplace " + word + " 0 0").fails("bad list", "lreverse " + word).fails("bad list", "lsearch " + word + " a")
                .fails("bad list", "string map " + word + " a");
            talk.fails("bad list", "switch a " + word).fails("bad list", "proc f " + word + " {}").fails("bad list", "proc f [list " + word + "] {}");
        }
        talk.tells("", "foreach x {a {b}c} {puts $x}").refuses("bad list", "set l {\"}; lappend l a", "\"", "set l");
    }

    private static void emptyElements() {
        Talk talk = Talk.about("An element is WRITTEN: empty as {}");
        talk.fine("{}", "list {}").fine("{} {}", "list {} {}").fine("", "list").fine("{}", "lappend l {}").fine("{} a {}", "split ,a, ,")
            .fine("{}", "lrange {a {} b} 1 1").fine("", "lindex {a {} b} 1").fine("0", "llength [list]").fine("1", "llength [list {}]");
    }

    private static void plainBytes() {
        Talk talk = Talk.about("as it is, if it has none of the bytes 9 to 13, 32, \" $ ; [ \\ ] { }");
        String special = "\t\n\13\f\r \"$;[]";
        for (int c = 0; c < 256; c++) {
            String text = "a" + (char) c + "b";
            if (c != '\\' && c != '{' && c != '}') {
                boolean plain = special.indexOf((char) c) < 0;
                talk.fine(plain ? text : "{" + text + "}", "list " + Talk.word(text));
                talk.fine(plain && c != '#' ? "" + (char) c : "{" + (char) c + "}", "list " + Talk.word("" + (char) c));
            }
        }
        talk.fine("a\\\\b", "list a\\\\b").fine("a\\{b", "list a\\{b").fine("a\\}b", "list a\\}b").fine("{a{}b}", "list a{}b");
    }

    private static void beginnings() {
        Talk talk = Talk.about("and does not begin with # (a # at the beginning behind a backslash)");
        talk.fine("{#}", "list #").fine("{#a}", "list #a").fine("a#", "list a#").fine("a {#}", "list a #").fine("\\#\\{", "list \\#\\{")
            .fine("\\{#", "list \\{#").fine("{##}", "list ##").fine("\\##\\}", "list ##\\}").fine("{#a}", "lappend l #a");
    }

    private static void balanced() {
        Talk talk = Talk.about("else if its braces are balanced (as counted above, never more closed than open) and it has no "
            + "backslash: in { }");
        talk.fine("{{}}", "list {{}}").fine("{a{b{c}d}e{}}", "list {a{b{c}d}e{}}").fine("\\}\\{", "list \\}\\{")
            .fine("\\{\\}\\}\\{", "list \\{\\}\\}\\{").fine("\\{", "list \\{").fine("\\}", "list \\}").fine("\\{\\{\\}", "list \\{\\{\\}");
        talk.fine("{ }", "list { }").fine("\\ \\\\", "list \" \\\\\"").fine("\\{\\\\\\}", "list \"{\\\\}\"").fine("{{} }", "list {{} }")
            .fine("\\ \\}\\{", "list \\ \\}\\{");
    }

    private static void backslashes() {
        Talk talk = Talk.about("else each of those bytes (and a # at the beginning) behind a backslash, 9 to 13 as \\t \\n \\v \\f \\r");
        talk.fine("\\t\\n\\v\\f\\r\\{", "list " + Talk.word("\t\n\13\f\r{"))
            .fine("\\ \\\"\\$\\;\\[\\\\\\]\\{\\}\\}", "list " + Talk.word(" \"$;[\\]{}}")).fine("a!#%\\\\'z", "list " + Talk.word("a!#%\\'z"));
        for (int c = 0; c < 256; c++) {
            String text = "a" + (char) c + "\\";
            boolean special = "\"$;[\\]{} ".indexOf((char) c) >= 0;
            String written = c >= 9 && c <= 13 ? "\\" + "tnvfr".charAt(c - 9) : (special ? "\\" : "") + (char) c;
            talk.fine("a" + written + "\\\\", "list " + Talk.word(text))
                .fine("1", "string equal " + Talk.word(text) + " [lindex [list " + Talk.word(text) + "] 0]");
        }
    }

    private static void several() {
        Talk talk = Talk.about("A list of several: the elements with a space between.");
        talk.fine("a b", "list a b").fine("a b c", "lreverse \" c \\t b\\n\\na \"").fine("a {} {b c}", "list a {} {b c}")
            .fine("{} {}", "lrange {{}  {}} 0 1");
    }
}
