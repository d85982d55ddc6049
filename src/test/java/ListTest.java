/** The commands of lists, and how elements are written. */
public final class ListTest {
    public static void main(String[] args) {
        writing();
        parts();
        changes();
        sorting();
        joining();
        Talk.finish();
    }

    private static void writing() {
        Talk talk = new Talk();
        talk.fine("a {} {b c} {#d} e#", "list a {} {b c} #d e#").fine("", "list");
        talk.fine("{a\"b} {a$b} {a;b} {a[b]} {a{b}c}", "list a\"b {a$b} {a;b} {a[b]} {a{b}c}");
        talk.fine("\\{ \\} a\\}b\\{c a\\\\b", "list \\{ \\} a\\}b\\{c a\\\\b");
        talk.fine("{\t} {\n} {\13} {\f} {\r}", "list \\t \\n \\v \\f \\r")
            .fine("\\t\\{ \\n\\{ \\v\\{ \\f\\{ \\r\\{", "list \\t\\{ \\n\\{ \\v\\{ \\f\\{ \\r\\{");
        talk.fine("\\#\\{ a#\\{", "list \\#\\{ a#\\{");
        talk.fine("\\ \\\"\\$\\;\\[\\]\\}", "list \" \\\"\\$;\\[\\]\\}\"").fine("a b {c d}", "lreverse {{c d}   b\ta}");
        talk.fine("\16 \10 a!z \u007f", "list \16 \10 a!z \u007f").fine("2", "llength \"a\\x0e b\"");
        talk.fine("\16\\{ \7\\{ \10\\{", "list \16\\{ \7\\{ \10\\{").fine("2", "llength a\\rb").fine("1", "llength a\\x0eb")
            .fine("2", "llength a\\tb");
        talk.fine("a b", "lindex \"a\\\\\\nb\" 0").fine("a b", "lindex \"a\\\\\\n \\tb\" 0").fine("a  b", "lindex \"a\\\\\\n \\\\\\nb\" 0");
        talk.fine("{}", "list {}").fine("{ }", "list { }").fine("\u00ff", "list \u00ff");
    }

    private static void parts() {
        Talk talk = new Talk();
        talk.fine("3", "llength {a {b c} d}").fine("0", "llength {}").fine("0", "llength { \t\n}").fine("1", "llength \\\\")
            .fails("bad list", "llength {a {b}c}");
        talk.fine("b c", "lindex {a {b c} d} 1").fine("d", "lindex {a {b c} d} end").fine("a", "lindex {a b c} end-2")
            .fine("b", "lindex {a b c} end-0x1");
        talk.fine("", "lindex {a b} 2").fine("", "lindex {a b} -1").fine("", "lindex {a b} end-2").fine("", "lindex {} end")
            .fine("", "lindex {a b} 99999999999");
        talk.fails("not an integer: x", "lindex {a b} x").fails("not an integer: end-", "lindex a end-")
            .fails("not an integer: end-+1", "lindex a end-+1");
        talk.fails("not an integer: end+1", "lindex a end+1").fails("not an integer: ", "lindex a {}").fails("bad list", "lindex \\{ x");
        talk.fails("not an integer: abc", "lindex {a b} abc").fails("not an integer: en", "lindex {a b} en")
            .fails("not an integer: End", "lindex {a b} End");
        talk.fails("not an integer: end--1", "lindex a end--1").fails("not an integer: ende", "lindex a ende");
        talk.fine("b c", "lrange {a b c d} 1 2").fine("a b", "lrange {a b c d} -5 1").fine("d", "lrange {a b c d} 3 99")
            .fine("", "lrange {a b c d} 2 1").fine("", "lrange {} 0 end");
        talk.fine("c d", "lrange {a b c d} end-1 end").fine("", "lrange {a b} 5 7").fine("", "lrange {a b} -3 -1")
            .fails("not an integer: x", "lrange a x y").fails("not an integer: y", "lrange a 0 y");
        talk.fine("1", "lsearch {a b c} b").fine("-1", "lsearch {a b c} d").fine("2", "lsearch {a b cc} c*").fine("-1", "lsearch -exact {a b cc} c*")
            .fine("2", "lsearch -glob {a b cc} c?");
        talk.fine("0", "lsearch -exact {* a} *").fails("bad option: -x", "lsearch -x {a b} a").fails("bad option: -x", "lsearch -x \\{ a")
            .fails("bad list", "lsearch \\{ a");
        talk.fails("wrong number of words: lsearch", "lsearch a").fails("wrong number of words: lsearch", "lsearch -glob -exact a b");
    }

    private static void changes() {
        Talk talk = new Talk();
        talk.fine("x y a b", "linsert {a b} 0 x y").fine("a x b", "linsert {a b} 1 x").fine("a b x", "linsert {a b} 9 x")
            .fine("x a b", "linsert {a b} -3 x");
        talk.fine("a b x", "linsert {a b} end x").fine("a x b", "linsert {a b} end-1 x").fine("x a b", "linsert {a b} end-2 x")
            .fine("x a b", "linsert {a b} end-9 x");
        talk.fine("x", "linsert {} end x").fine("x", "linsert {} 5 x").fine("a b", "linsert { a  b } 0").fails("not an integer: q", "linsert a q x")
            .fails("bad list", "linsert \\{ q");
        talk.fine("a x y d", "lreplace {a b c d} 1 2 x y").fine("a d", "lreplace {a b c d} 1 2").fine("a x b c", "lreplace {a b c} 1 0 x")
            .fine("x a b", "lreplace {a b} 0 -1 x");
        talk.fine("x a b", "lreplace {a b} -4 -2 x").fine("x b", "lreplace {a b} -4 0 x").fine("a b x", "lreplace {a b} 2 5 x")
            .fine("a b x", "lreplace {a b} 7 1 x").fine("x", "lreplace {} 0 0 x");
        talk.fine("a b x c", "lreplace {a b c} 2 -3 x").fine("a x", "lreplace {a b c} 1 end x").fine("a b", "lreplace {a b c} end end")
            .fails("not an integer: r", "lreplace a 0 r x");
        talk.fine("c {b 1} a", "lreverse {a {b 1} c}").fine("", "lreverse {}").fails("wrong number of words: lreverse", "lreverse");
        talk.fails("wrong number of words: linsert", "linsert a").fails("wrong number of words: lreplace", "lreplace a 0");
    }

    private static void sorting() {
        Talk talk = new Talk();
        talk.fine("B a ab b", "lsort {b ab a B}").fine("b ab a B", "lsort -decreasing {b ab a B}")
            .fine("-1 2 10 0x10", "lsort -integer {10 2 0x10 -1}");
        talk.fine("-1 0x10 10 2", "lsort {10 2 0x10 -1}").fine("a b", "lsort -unique {b a b a}").fine("01 2", "lsort -integer -unique {1 2 +1 01}");
        talk.fine("1 +1 01 2", "lsort -integer {1 2 +1 01}").fine("2 1 +1 01", "lsort -decreasing -integer {1 2 +1 01}")
            .fine("2 01", "lsort -unique -decreasing -integer {1 2 +1 01}");
        talk.fails("bad option: -integer", "lsort -integer -integer {1}").fails("bad option: -x", "lsort -unique -x {1}")
            .fails("not an integer: x", "lsort -integer {1 x y}");
        talk.fails("bad list", "lsort -integer \\{").fails("bad option: -x", "lsort -x \\{").fine("-x", "lsort -x")
            .fails("wrong number of words: lsort", "lsort");
        talk.fails("wrong number of words: lsort", "lsort -unique -integer -decreasing -unique {}").fine("{} {a b} c", "lsort {c {a b} {}}");
        talk.fine("a z \u00e9 \u00ff", "lsort {\u00ff z \u00e9 a}").fine("", "lsort {}");
    }

    private static void joining() {
        Talk talk = new Talk();
        talk.fine("a b", "concat a b").fine("a b c d", "concat { a b } {} {c\n} \"\\t\" d").fine("", "concat").fine("\13a", "concat \\va")
            .fine("\ra", "concat \\ra");
        talk.fine("a b c", "join {a {b c}}").fine("a--b c", "join {a {b c}} --").fine("ab", "join {a b} {}").fine("", "join {} x")
            .fails("bad list", "join \\{");
        talk.fine("a {} b c", "split {a  b c}").fine("a b c d", "split \"a\\nb\\tc\\rd\"").fine("a b {} c", "split a,b,\\;c ,\\;");
        talk.fine("a { } b", "split {a b} {}").fine("", "split {}").fine("", "split {} {}").fine("{} {}", "split , ,").fine("{a\13b}", "split a\\vb");
        talk.fails("wrong number of words: split", "split").fails("wrong number of words: join", "join a b c")
            .fails("wrong number of words: llength", "llength");
    }
}
