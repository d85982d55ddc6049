/** The boundary cases of the commands of lists. */
public final class EdgeListTest {
    public static void main(String[] args) {
        lengths();
        outside();
        ranges();
        searches();
        inserts();
        insertsAtEnd();
        replacements();
        replacementsBelow();
        beyond();
        reverses();
        sortOptions();
        sortBytes();
        sortIntegers();
        sortEqual();
        sortUnique();
        concats();
        joins();
        splits();
        splitsEmpty();
        written();
        order();
        Talk.finish();
    }

    private static void lengths() {
        Talk talk = Talk.about("list x...; llength l");
        talk.fine("", "list").fine("{}", "list {}").fine("0", "llength {}").fine("0", "llength { }").fine("1", "llength {{}}")
            .fine("512", "llength [string repeat {a } 512]").fine("341", "llength [string repeat {{} } 341]")
            .fine("127", "llength [list" + " a".repeat(127) + "]");
        talk.fails("wrong number of words: llength", "llength").fails("wrong number of words: llength", "llength a b")
            .fails("bad list", "llength \\{");
    }

    private static void outside() {
        Talk talk = Talk.about("Outside lindex and string index are empty");
        talk.fine("a", "lindex {a b c} 0").fine("c", "lindex {a b c} 2").fine("", "lindex {a b c} 3").fine("", "lindex {a b c} -1")
            .fine("a", "lindex {a b c} end-2").fine("", "lindex {a b c} end-3").fine("", "lindex {} 0").fine("", "lindex {} end")
            .fine("", "lindex {} end-0").fine("", "lindex {a b c} end-0xffffffffffffffff");
        talk.fine("a", "string index abc 0").fine("c", "string index abc 2").fine("", "string index abc 3").fine("", "string index abc -1")
            .fine("a", "string index abc end-2").fine("", "string index abc end-3").fine("", "string index {} 0").fine("", "string index {} end")
            .fine("", "string index abc 9223372036854775807");
        talk.fine("", "string index abc -9223372036854775808").fine("", "lindex {a b c} 9223372036854775807")
            .fine("", "lindex {a b c} -9223372036854775808").fine("z", "lindex [string repeat {a } 511]z 511")
            .fine("", "lindex [string repeat {a } 511]z 512").fine("z", "string index [string repeat a 1023]z 1023")
            .fine("", "string index [string repeat a 1023]z 1024");
    }

    private static void ranges() {
        Talk talk = Talk.about("lrange, string range and replace are cut to what is there (nothing: empty; replace: x)");
        String[][] edges = {{"0", "2", "abc"}, {"0", "3", "abc"}, {"-1", "2", "abc"}, {"-9", "9", "abc"}, {"0", "0", "a"}, {"2", "2", "c"},
            {"2", "9", "c"}, {"3", "9", ""}, {"3", "3", ""}, {"-9", "0", "a"}, {"-9", "-1", ""}, {"-1", "-1", ""}, {"1", "0", ""}, {"2", "1", ""},
            {"0", "-1", ""},
            {"end", "end", "c"}, {"end-2", "end", "abc"}, {"end-3", "end", "abc"}, {"0", "end-3", ""}, {"0", "end-2", "a"}, {"end", "0", ""},
                {"-9223372036854775808", "9223372036854775807", "abc"}, {"9223372036854775807", "-9223372036854775808", ""},
                {"0", "end-0xffffffffffffffff", "abc"}, {"end-0xffffffffffffffff", "9", ""}};
        for (String[] edge : edges) {
            String listed = String.join(" ", edge[2].split(""));
            talk.fine(listed, "lrange {a b c} " + edge[0] + " " + edge[1]).fine(edge[2], "string range abc " + edge[0] + " " + edge[1]);
            String rest = edge[2].isEmpty() ? "abc" : "abc".replace(edge[2], "X");
            talk.fine(rest, "string replace abc " + edge[0] + " " + edge[1] + " X")
                .fine(rest.replace("X", ""), "string replace abc " + edge[0] + " " + edge[1]);
        }
        talk.fine("", "lrange {} 0 0").fine("", "lrange {} 0 end").fine("", "lrange {} -1 1").fine("", "string range {} 0 end")
            .fine("", "string replace {} 0 0 X").fine("", "string replace {} 0 end X").fine("", "string replace {} -1 5 X");
    }

    private static void searches() {
        Talk talk = Talk.about("lsearch ?-exact|-glob? l p: the first index or -1 (glob if not told)");
        talk.fine("0", "lsearch {a b a} a").fine("2", "lsearch {a b c} c").fine("-1", "lsearch {a b c} d").fine("-1", "lsearch {} a")
            .fine("-1", "lsearch {} {}").fine("1", "lsearch {a {} b} {}").fine("0", "lsearch {ab c} a*").fine("-1", "lsearch -exact {ab c} a*")
            .fine("1", "lsearch -exact {ab a*} a*").fine("0", "lsearch -glob {ab a*} a*");
        talk.fails("bad option: -regexp", "lsearch -regexp a a").fails("bad option: ", "lsearch {} a a").fails("bad option: -x", "lsearch -x \\{ a")
            .fine("0", "lsearch -exact -exact").fine("-1", "lsearch -glob a").fails("wrong number of words: lsearch", "lsearch a")
            .fails("wrong number of words: lsearch", "lsearch -glob -exact a b").fails("bad list", "lsearch -exact \\{ a");
    }

    private static void inserts() {
        Talk talk = Talk.about("linsert l i x... (ahead of i)");
        talk.fine("x a b", "linsert {a b} 0 x").fine("a x b", "linsert {a b} 1 x").fine("x a b", "linsert {a b} -1 x")
            .fine("x a b", "linsert {a b} -9223372036854775808 x").fine("x y a b", "linsert {a b} 0 x y").fine("a b", "linsert {a  b} 0")
            .fails("not an integer: x", "linsert {a b} x").fails("wrong number of words: linsert", "linsert {a b}")
            .fails("bad list", "linsert \\{ x");
    }

    private static void insertsAtEnd() {
        Talk talk = Talk.about("linsert (of end, end-INTEGER: behind that one)");
        talk.fine("a b x", "linsert {a b} end x").fine("a b x", "linsert {a b} end-0 x").fine("a x b", "linsert {a b} end-1 x")
            .fine("x a b", "linsert {a b} end-2 x").fine("x a b", "linsert {a b} end-3 x").fine("x a b", "linsert {a b} end-9223372036854775807 x")
            .fine("x", "linsert {} end x").fine("x", "linsert {} end-1 x").fine("a b x", "linsert {a b} end-0xffffffffffffffff x");
        talk.fine("a b x", "linsert {a b} end-0x8000000000000000 x").fails("not an integer: end-", "linsert {a b} end- x");
    }

    private static void replacements() {
        Talk talk = Talk.about("lreplace l i j x... (in the place of i to j)");
        talk.fine("x b c", "lreplace {a b c} 0 0 x").fine("a b x", "lreplace {a b c} 2 2 x").fine("x", "lreplace {a b c} 0 2 x")
            .fine("x", "lreplace {a b c} -1 3 x").fine("x b c", "lreplace {a b c} -5 0 x").fine("a x", "lreplace {a b c} 1 9 x")
            .fine("", "lreplace {a b c} 0 end").fine("a c", "lreplace {a b c} 1 1").fine("a x y z c", "lreplace {a b c} 1 1 x y z");
        talk.fine("a b", "lreplace {a b c} end end").fine("x c", "lreplace {a b c} end-2 end-1 x").fine("x b c", "lreplace {a b c} end-9 end-2 x")
            .fails("not an integer: q", "lreplace {a b c} q r x").fails("not an integer: r", "lreplace {a b c} 0 r x")
            .fails("wrong number of words: lreplace", "lreplace {a b c} 0").fails("bad list", "lreplace \\{ q r");
    }

    private static void replacementsBelow() {
        Talk talk = Talk.about("lreplace (j below i, also below 0: ahead of i)");
        talk.fine("a x b c", "lreplace {a b c} 1 0 x").fine("a b x c", "lreplace {a b c} 2 0 x").fine("a b x c", "lreplace {a b c} 2 -1 x")
            .fine("a x b c", "lreplace {a b c} 1 -9 x").fine("x a b c", "lreplace {a b c} 0 -1 x").fine("x a b c", "lreplace {a b c} -1 -1 x")
            .fine("x a b c", "lreplace {a b c} -1 -9 x").fine("x a b c", "lreplace {a b c} -9 -1 x");
        talk.fine("a x b c", "lreplace {a b c} 1 -9223372036854775808 x").fine("a b c", "lreplace {a b c} 2 1")
            .fine("a b x c", "lreplace {a b c} end end-1 x").fine("a x b c", "lreplace {a b c} 1 end-9 x");
    }

    private static void beyond() {
        Talk talk = Talk.about("linsert and lreplace beyond the last (also of an empty list) put in behind it");
        talk.fine("a b x", "linsert {a b} 2 x").fine("a b x", "linsert {a b} 3 x").fine("a b x", "linsert {a b} 9223372036854775807 x")
            .fine("x", "linsert {} 0 x").fine("x", "linsert {} 5 x").fine("x", "linsert {} -5 x").fine("a b x", "lreplace {a b} 2 2 x")
            .fine("a b x", "lreplace {a b} 2 9 x").fine("a b x", "lreplace {a b} 9 9 x").fine("a b x", "lreplace {a b} 9 0 x");
        talk.fine("a b x", "lreplace {a b} 9 -1 x").fine("x", "lreplace {} 0 0 x").fine("x", "lreplace {} 5 9 x").fine("x", "lreplace {} -1 -1 x")
            .fine("x", "lreplace {} end end x").fine("", "lreplace {} 0 0").fine("a b x", "lreplace {a b} 9223372036854775807 9223372036854775807 x");
    }

    private static void reverses() {
        Talk talk = Talk.about("lreverse l");
        talk.fine("", "lreverse {}").fine("a", "lreverse a").fine("c b a", "lreverse {a b c}").fine("{} a", "lreverse {a {}}")
            .fine("1023", "string length [lreverse [string repeat {a } 512]]").fails("bad list", "lreverse \\{")
            .fails("wrong number of words: lreverse", "lreverse");
    }

    private static void sortOptions() {
        Talk talk = Talk.about("lsort ?-integer? ?-decreasing? ?-unique? l (the options in any order, each once, else bad option: O)");
        String[] orders = {"-integer -decreasing -unique", "-integer -unique -decreasing", "-decreasing -integer -unique",
            "-decreasing -unique -integer", "-unique -integer -decreasing", "-unique -decreasing -integer"};
        for (String options : orders) {
            talk.fine("10 9", "lsort " + options + " {9 10 9}");
        }
        for (String option : new String[] {"-integer", "-decreasing", "-unique"}) {
            talk.fine("1", "lsort " + option + " 1").fails("bad option: " + option, "lsort " + option + " " + option + " 1")
                .fine(option, "lsort " + option).fails("bad option: x", "lsort x " + option + " 1")
                .fails("bad option: x", "lsort " + option + " x 1");
        }
        talk.fails("bad option: -increasing", "lsort -increasing {}").fails("bad option: ", "lsort {} {}").fails("bad option: x", "lsort x \\{")
            .fails("wrong number of words: lsort", "lsort").fails("wrong number of words: lsort", "lsort -integer -unique -decreasing -integer {}")
            .fails("bad option: -Unique", "lsort -Unique {}");
    }

    private static void sortBytes() {
        Talk talk = Talk.about("by bytes, 0 .. 255, a text that another one begins with being less (so in all orders here)");
        talk.fine("", "lsort {}").fine("a", "lsort a").fine("{} a aa ab b", "lsort {b ab aa {} a}")
            .fine("b ab aa a {}", "lsort -decreasing {b ab aa {} a}").fine("A Z a z \u0080 \u00ff", "lsort {\u00ff z a \u0080 A Z}")
            .fine("\1 \176", "lsort {\176 \1}").fine("10 9", "lsort {9 10}").fine("a\0 a\1", "lsort {a\1 a\0}").fine("a a\0", "lsort {a\0 a}");
        talk.fine("-1", "string compare a ab").fine("1", "string compare ab a").fine("-1", "string compare {} a").fine("0", "string compare {} {}")
            .fine("-1", "string compare a \u00ff").fine("1", "string compare \u0080 \177").fine("1", "expr {\"ab\" > \"a\"}")
            .fine("1", "expr {\"\" < \"a\"}").fine("1", "expr {\"\u00ff\" > \"a\"}");
        StringBuilder falling = new StringBuilder();
        StringBuilder rising = new StringBuilder();
        for (int i = 0; i < 26 * 9; i++) {
            falling.append(' ').append((char) ('z' - i / 9)).append(9 - i % 9);
            rising.append(' ').append((char) ('a' + i / 9)).append(1 + i % 9);
        }
        talk.fine(rising.substring(1), "lsort {" + falling + "}").fine(falling.substring(1), "lsort -decreasing {" + rising + "}");
    }

    private static void sortIntegers() {
        Talk talk = Talk.about("or integers, the first that is none being told");
        talk.fine("", "lsort -integer {}")
            .fine("-9223372036854775808 -1 0 1 9 10 9223372036854775807", "lsort -integer {10 9 1 -1 0 9223372036854775807 -9223372036854775808}")
            .fine("0xf 16 0x11", "lsort -integer {0x11 16 0xf}").fails("not an integer: x", "lsort -integer {3 x y 1}")
            .fails("not an integer: ", "lsort -integer {3 {} x}");
        talk.fails("not an integer: 9223372036854775808", "lsort -integer {9223372036854775808 x}").fails("not an integer: a", "lsort -integer a")
            .fails("bad list", "lsort -integer {x {y}z}");
    }

    private static void sortEqual() {
        Talk talk = Talk.about("equal ones as they stand");
        talk.fine("1 01 +1 0x1 2", "lsort -integer {2 1 01 +1 0x1}").fine("2 1 01 +1 0x1", "lsort -integer -decreasing {1 01 2 +1 0x1}")
            .fine("a a b", "lsort {a b a}").fine("0 -0 +0 00 1 01 +1", "lsort -integer {0 1 -0 01 +0 +1 00}");
    }

    private static void sortUnique() {
        Talk talk = Talk.about("unique: of equal ones the last stays");
        talk.fine("a b", "lsort -unique {b a b a a}").fine("0x1 2", "lsort -integer -unique {2 1 01 +1 0x1}")
            .fine("02 1", "lsort -integer -unique -decreasing {2 1 02}").fine("", "lsort -unique {}").fine("{}", "lsort -unique {{} {}}")
            .fine("a", "lsort -unique a").fine("01 1", "lsort -unique {1 01 1}");
    }

    private static void concats() {
        Talk talk = Talk.about("concat x...: trimmed of bytes 32, 9, 10, those not empty with spaces between");
        talk.fine("", "concat").fine("", "concat {}").fine("", "concat {} { } \\t \\n").fine("a", "concat {} a {}")
            .fine("a b", "concat { a } \"\\t\\nb\\n\\t \"").fine("a  b c", "concat {a  b} c").fine("{a b} c", "concat {{a b}} c")
            .fine("a {", "concat a \\{");
        for (int c = 0; c < 256; c++) {
            boolean trimmed = c == 32 || c == 9 || c == 10;
            String text = (char) c + "a" + (char) c;
            talk.fine(trimmed ? "a b" : text + " b", "concat " + Talk.word(text) + " b");
        }
    }

    private static void joins() {
        Talk talk = Talk.about("join l ?s? (a space)");
        talk.fine("", "join {}").fine("", "join {} x").fine("a", "join a x").fine("a b", "join {a b}").fine("axb", "join {a b} x")
            .fine("ab", "join {a b} {}").fine("a b c", "join {a {b c}}").fine(",,", "join {{} {} {}} ,").fine("a{b", "join {a \\{ b} {}")
            .fails("bad list", "join \\{ x").fails("wrong number of words: join", "join").fails("wrong number of words: join", "join a b c");
    }

    private static void splits() {
        Talk talk = Talk.about("split x ?c?: at each byte of c (space, newline, tab, return)");
        for (int c = 0; c < 256; c++) {
            boolean parts = c == 32 || c == 10 || c == 9 || c == 13;
            talk.fine(parts ? "2" : "1", "llength [split " + Talk.word("a" + (char) c + "b") + "]");
        }
        talk.fine("a b", "split a,b ,").fine("a b c", "split a,b\\;c ,\\;").fine("{} {}", "split , ,").fine("{} {} {}", "split ,, ,")
            .fine("a {}", "split a, ,").fine("{} a", "split ,a ,").fine("{a b}", "split {a b} ,").fine("a {} b", "split {a  b}").fine("a", "split a")
            .fails("wrong number of words: split", "split").fails("wrong number of words: split", "split a b c");
    }

    private static void splitsEmpty() {
        Talk talk = Talk.about("split (empty: each byte; an empty x: an empty list)");
        talk.fine("a b c", "split abc {}").fine("a { } \\{", "split \"a \\{\" {}").fine("a", "split a {}").fine("", "split {} {}")
            .fine("", "split {}").fine("", "split {} ,").fine("0", "llength [split {} ,]");
    }

    private static void written() {
        Talk talk = Talk.about("Lists that are answered are written anew.");
        talk.fine("a b", "lrange \"{a}  \\\"b\\\" \" 0 end").fine("{a b}", "lrange {a\\ b} 0 0").fine("b a", "lreverse {\"a\" {b}}")
            .fine("a b", "lsort {{b} {a}}").fine("x a", "linsert { {a} } 0 x").fine("a x", "lreplace { {a} b } 1 1 x").fine("{#}", "lrange # 0 0")
            .fine("{} {}", "lrange {\"\" {}} 0 1").fine("{a;}", "lreverse {a;}");
    }

    private static void order() {
        Talk talk = Talk.about("A text that is no list is told ahead of indices, these from the left.");
        talk.fails("bad list", "lindex \\{ x").fails("bad list", "lrange \\{ x y").fails("bad list", "linsert \\{ x y")
            .fails("bad list", "lreplace \\{ x y").fails("not an integer: x", "lrange a x y").fails("not an integer: y", "lrange a 0 y")
            .fails("not an integer: x", "lreplace a x y").fails("not an integer: y", "lreplace a 0 y");
        talk.fails("not an integer: x", "string range a x y").fails("not an integer: y", "string range a 0 y")
            .fails("not an integer: x", "string replace a x y").fails("not an integer: y", "string replace a 9 y z");
    }
}
