/** The commands string and format, and patterns. */
public final class StringTest {
    public static void main(String[] args) {
        places();
        search();
        changes();
        patterns();
        integers();
        formats();
        Talk.finish();
    }

    private static void places() {
        Talk talk = new Talk();
        talk.fine("3", "string length abc").fine("0", "string length {}").fine("b", "string index abc 1").fine("c", "string index abc end")
            .fine("a", "string index abc end-2");
        talk.fine("", "string index abc 3").fine("", "string index abc -1").fine("", "string index {} end")
            .fails("not an integer: x", "string index abc x");
        talk.fine("bc", "string range abcd 1 2").fine("ab", "string range abcd -4 1").fine("d", "string range abcd 3 44")
            .fine("", "string range abcd 2 1").fine("", "string range abcd 4 9");
        talk.fine("", "string range abcd -3 -1").fine("cd", "string range abcd end-1 end").fails("not an integer: x", "string range a x y")
            .fails("not an integer: y", "string range a 0 y");
        talk.fine("aXd", "string replace abcd 1 2 X").fine("ad", "string replace abcd 1 2").fine("abcd", "string replace abcd 2 1 X")
            .fine("abcd", "string replace abcd 4 9 X");
        talk.fine("Xcd", "string replace abcd -3 1 X").fine("abcd", "string replace abcd -3 -1 X").fine("abX", "string replace abcd 2 99 X")
            .fine("", "string replace {} 0 0 X");
        talk.fails("wrong number of words: string", "string").fails("bad option: foo", "string foo").fails("bad option: foo", "string foo a b c d e");
        talk.fails("wrong number of words: string", "string length").fails("wrong number of words: string", "string length a b")
            .fails("wrong number of words: string", "string replace a 0");
    }

    private static void search() {
        Talk talk = new Talk();
        talk.fine("-1", "string compare a b").fine("0", "string compare a a").fine("1", "string compare b a").fine("-1", "string compare a ab")
            .fine("1", "string compare \u00ff z");
        talk.fine("1", "string equal a a").fine("0", "string equal a A").fine("0", "string equal 1 01");
        talk.fine("1", "string first b abcb").fine("3", "string first b abcb 2").fine("-1", "string first b abcb 4")
            .fine("1", "string first b abcb -7").fine("3", "string first b abcb end");
        talk.fine("-1", "string first {} abc").fine("-1", "string first x {}").fine("-1", "string first abcd abc")
            .fails("not an integer: x", "string first a b x");
        talk.fine("3", "string last b abcb").fine("1", "string last b abcb 2").fine("-1", "string last b abcb 0").fine("1", "string last bc abcbd 2")
            .fine("-1", "string last bc abcbd 1");
        talk.fine("0", "string first a abc 0").fine("0", "lsearch {{}} *").fine("0", "string first {a b} {a b}");
        talk.fine("0", "string last a abc").fine("0", "string first a abc").fine("0", "string last abc abc").fine("2", "string first c abc end");
        talk.fine("", "string range [set x abc] 5 6").fine("", "string index [set x abc] 5").fine("", "lindex [set x abc] 5");
        talk.fine("3", "string last b abcb 99").fine("-1", "string last {} abc").fine("-1", "string last b abcb -1")
            .fine("1", "string last b abcb end-1").fine("-1", "string last abc {}");
    }

    private static void changes() {
        Talk talk = new Talk();
        talk.fine("abz\u00c9[1", "string tolower aBZ\u00c9\\[1").fine("ABZ\u00e9`{1", "string toupper abz\u00e9`\\{1");
        talk.fine("a b", "string trim \" \\t\\n\\v\\f\\ra b\\r\"").fine("a ", "string trimleft { a }").fine(" a", "string trimright { a }")
            .fine("b", "string trim xybyx xy");
        talk.fine(" a ", "string trim { a } {}").fine("", "string trim {   }").fine("", "string trim xx x").fine("\0a", "string trim \\0a");
        talk.fine("ababab", "string repeat ab 3").fine("", "string repeat ab 0").fine("", "string repeat ab -9")
            .fine("", "string repeat {} 9223372036854775807").fails("too long", "string repeat a 9223372036854775807");
        talk.fails("not an integer: x", "string repeat a x").fine("cba", "string reverse abc").fine("", "string reverse {}");
        talk.fine("xyc", "string map {a x b y} abc").fine("1c", "string map {ab 1 a 2} abc").fine("2bc", "string map {a 2 ab 1} abc")
            .fine("abc", "string map {{} x} abc");
        talk.fine("bc", "string map {a {}} abca").fine("ba", "string map {a b b a} ab").fails("bad list", "string map {a} a")
            .fails("bad list", "string map \\{ a").fine("abc", "string map {} abc");
    }

    private static void patterns() {
        String[][] fitting = {
            {"", ""}, {"*", ""}, {"*", "abc"}, {"**", ""}, {"a*", "a"}, {"a*c", "abbc"}, {"*b*", "abc"}, {"a?c", "abc"}, {"*ab", "aab"}, {"*a*b*", "xaxbx"},
            {"[abc]", "b"}, {"[a-c]x", "bx"}, {"[a-c", "c"}, {"[-a]", "-"}, {"[a-]", "-"}, {"[a-", "-"}, {"\\*", "*"}, {"\\", "\\"}, {"a\\", "a\\"},
            {"[\\]]", "]"}, {"[a\\-c]", "-"}, {"[*]", "*"}, {"[?]", "?"}, {"[^a]", "^"}, {"[A-\\]]", "["}, {"[A-\\", "\\"}, {"[\\", "\\"}, {"]", "]"}, {"a]", "a]"},
            {"[a-c-e]", "e"}, {"[a-c-e]", "-"}, {"[\\a-c]", "b"}, {"*[0-9]", "a1b2"}, {"[\\]]x", "]x"}, {"[a\\]b]c", "bc"}, {"[a-c", "b"},
                {"[a-\\d", "c"}, {"[\\a", "a"}, {"[a\\", "\\"}, {"*a?", "aab"}, {"[]a", "x", "0"},
        };
        String[][] unfitting = {
            {"", "a"}, {"a", ""}, {"?", ""}, {"a*c", "abcd"}, {"[]", "]"}, {"[]", ""}, {"[]x]", "x"}, {"[c-a]", "b"}, {"[a\\-c]", "b"}, {"\\*", "a"},
                {"\\?", "a"}, {"[", "["},
            {"[a-c-e]", "d"}, {"*ab", "ba"}, {"ab", "AB"}, {"a*b*c", "acb"}, {"[a-c]", "d"}, {"*[", ""}, {"[]a", "a"}, {"[a-\\]]", "b"},
                {"*x*", "abc"}, {"a*x*c", "abc"}, {"*a*c", "bc"}, {"[\\a", "\\"}, {"[a-\\d", "\\"}, {"[a-\\d", "-"}, {"ab*ba", "aba"},
        };
        Talk talk = new Talk();
        for (String[] pair : fitting) {
            talk.fine(pair.length > 2 ? "0" : "1", "string match " + bytes(pair[0]) + " " + bytes(pair[1]));
        }
        for (String[] pair : unfitting) {
            talk.fine("0", "string match " + bytes(pair[0]) + " " + bytes(pair[1]));
        }
    }

    private static String bytes(String text) {
        StringBuilder escaped = new StringBuilder("\"");
        for (int i = 0; i < text.length(); i++) {
            escaped.append(String.format("\\x%02x", (int) text.charAt(i)));
        }
        return escaped.append('"').toString();
    }

    private static void integers() {
        Talk talk = new Talk();
        String[] good = {"0", "-0", "+7", "007", "9223372036854775807", "-9223372036854775808", "0x0", "0xfF", "-0x1", "+0x1", "0xFFFFFFFFFFFFFFFF",
            "0000000000000000000000001"};
        String[] bad = {"", "-", "+", " 1", "1 ", "1a", "0x", "0X1", "0xg", "9223372036854775808", "-9223372036854775809", "0x10000000000000000",
            "--1", "1.0", "end", "1_0", "1:", "1/", "0x1G", "0x1@"};
        for (String text : good) {
            talk.fine("1", "string is integer {" + text + "}");
        }
        for (String text : bad) {
            talk.fine("0", "string is integer {" + text + "}");
        }
        talk.fails("bad option: real", "string is real 1").fails("bad option: real", "string is real")
            .fails("wrong number of words: string", "string is");
        talk.fails("wrong number of words: string", "string is integer").fails("wrong number of words: string", "string is integer 1 2");
    }

    private static void formats() {
        Talk talk = new Talk();
        talk.fine("a 5 b", "format {a %d b} 5").fine("   5|5   |0005", "format %4d|%-4d|%04d 5 5 5")
            .fine("-005|+005|+5| 5", "format {%04d|%+04d|%+d|% d} -5 5 5 5");
        talk.fine("+0 0", "format {%+d% d} 0 0").fine("0000", "format %04d 0").fine("0 0", "format {%x %d} 0 -0");
        talk.fine("+5", "format {% +d} 5").fine("-5", "format {%+ d} -5").fine("ff FF 377", "format {%x %X %o} 255 255 255")
            .fine("ffffffffffffffff", "format %x -1").fine("aA9", "format %x%X%x 10 10 9");
        talk.fine("1777777777777777777777", "format %o -1").fine("  ff|ff  |00ff", "format %4x|%-4x|%04x 255 255 255").fine("ff", "format {%+ x} 255")
            .fine("00ff", "format %+04x 255");
        talk.fine("A|  A|A  |  A", "format %c|%3c|%-3c|%03c 65 65 65 65").fine("\0\u00ff", "format %c%c 256 -1")
            .fine("ab|  ab|ab  |  ab", "format %s|%4s|%-4s|%04s ab ab ab ab");
        talk.fine("5    ", "format %-05d 5").fine("%", "format %%").fine("%", "format %-05%").fine("% 1", "format {%% %d} 1 2 3")
            .fine("0", "format %o 0").fine("16", "format %d 0x10");
        talk.fine("-9223372036854775808", "format %d -9223372036854775808").fine("-09223372036854775808", "format %021d -9223372036854775808");
        talk.fails("bad format: a%", "format a%").fails("bad format: %q", "format %q 1").fails("bad format: %-", "format %-")
            .fails("bad format: %5-d", "format %5-d 1").fails("bad format: %.2d", "format %.2d 1");
        talk.fails("not enough words: format", "format %d").fails("not enough words: format", "format %d%s 1")
            .fails("not an integer: x", "format %d x").fails("not an integer: ", "format %c {}");
        talk.fails("not an integer: x", "format %d%q x").fails("bad format: %q%d", "format %q%d x").fails("wrong number of words: format", "format");
        talk.fine(" ".repeat(1023) + "5", "format %1024d 5").fails("too long", "format %1025d 5").fails("too long", "format %99999999999999999999d 5")
            .fails("too long", "format %1025d");
        talk.fails("too long", "format a%1024d%q 5").fails("too long", "format %1024dx%d 5 y");
    }
}
