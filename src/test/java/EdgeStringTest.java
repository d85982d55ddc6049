/** The boundary cases of the commands string and format, and of patterns. */
public final class EdgeStringTest {
    private static final String MOST = "a".repeat(1024);

    public static void main(String[] args) {
        comparisons();
        firsts();
        lasts();
        wordsAside();
        cases();
        trims();
        repeats();
        reverses();
        isInteger();
        maps();
        options();
        stars();
        questionMarks();
        sets();
        ranges();
        backslashes();
        flags();
        widths();
        conversions();
        zeros();
        signs();
        badFormats();
        formatOrder();
        longFormats();
        percents();
        Talk.finish();
    }

    private static void comparisons() {
        Talk talk = Talk.about("string length x; compare x y (-1 0 1); equal x y: 1 or 0");
        talk.fine("0", "string length {}").fine("1024", "set x [string repeat a 1024]; string length $x").fine("0", "string compare {} {}")
            .fine("-1", "string compare {} a").fine("1", "string compare a {}").fine("-1", "string compare a b").fine("1", "string compare b a")
            .fine("0", "string compare a a").fine("1", "string compare b ab");
        talk.fine("1", "string equal {} {}").fine("0", "string equal {} a").fine("0", "string equal a A").fine("0", "string equal 1 01")
            .fine("0", "string equal ab a").fine("0", "string equal ab ac");
    }

    private static void firsts() {
        Talk talk = Talk.about("first n x ?i? (the first place from i on where n stands; i below 0 is 0), -1 if none or n is empty");
        talk.fine("0", "string first a aba").fine("2", "string first a aba 1").fine("2", "string first a aba 2").fine("-1", "string first a aba 3")
            .fine("0", "string first a aba -1").fine("0", "string first a aba -9223372036854775808")
            .fine("-1", "string first a aba 9223372036854775807").fine("2", "string first a aba end").fine("0", "string first a aba end-2");
        talk.fine("0", "string first a aba end-9").fine("-1", "string first {} abc").fine("-1", "string first {} {}").fine("-1", "string first a {}")
            .fine("-1", "string first {} abc 1").fine("0", "string first abc abc").fine("-1", "string first abcd abc")
            .fine("1", "string first bc abc").fine("-1", "string first bc abc 2").fine("1023", "string first b [string repeat a 1023]b");
        talk.fails("not an integer: x", "string first a a x").fails("not an integer: x", "string first {} a x")
            .fails("wrong number of words: string", "string first a").fails("wrong number of words: string", "string first a b 0 0")
            .fine("-1", "string first a aba end-0xffffffffffffffff");
    }

    private static void lasts() {
        Talk talk = Talk.about("last n x ?i? (the last where it stands and ends at i at most), -1 if none or n is empty");
        talk.fine("2", "string last a aba").fine("2", "string last a aba 2").fine("0", "string last a aba 1").fine("0", "string last a aba 0")
            .fine("-1", "string last a aba -1").fine("2", "string last a aba 99").fine("2", "string last a aba 9223372036854775807")
            .fine("-1", "string last a aba -9223372036854775808").fine("2", "string last a aba end");
        talk.fine("0", "string last a aba end-1").fine("-1", "string last a aba end-3").fine("-1", "string last {} abc")
            .fine("-1", "string last {} {}").fine("-1", "string last a {}").fine("0", "string last abc abc").fine("-1", "string last abc abc 1")
            .fine("1", "string last ba abac 2").fine("0", "string last ba baba 2").fine("2", "string last ba baba 3");
        talk.fine("-1", "string last abcd abc").fails("not an integer: x", "string last a a x").fails("not an integer: x", "string last {} a x")
            .fine("2", "string last a aba end-0xffffffffffffffff");
    }

    /** Words of a command lie one behind another; what is looked for must not reach into the next one. */
    private static void wordsAside() {
        Talk talk = Talk.about("the first place where n stands (in x alone, not in the word behind it)");
        talk.fine("-1", "string first b0 ab 0").fine("-1", "string last b5 ab 5").fine("-1", "string first ab0 ab 0").fine("1", "string first b ab 0")
            .fine("ab", "string map {bab x} ab").fine("0", "string match a*ba ab").fine("0", "string equal ab abc");
    }

    private static void cases() {
        Talk talk = Talk.about("tolower, toupper x (A .. Z, a .. z alone)");
        StringBuilder all = new StringBuilder();
        StringBuilder small = new StringBuilder();
        StringBuilder great = new StringBuilder();
        for (int c = 0; c < 256; c++) {
            all.append((char) c);
            small.append((char) (c >= 'A' && c <= 'Z' ? c + 32 : c));
            great.append((char) (c >= 'a' && c <= 'z' ? c - 32 : c));
        }
        for (int at = 0; at < 256; at += 128) {
            talk.fine(small.substring(at, at + 128), "string tolower " + Talk.word(all.substring(at, at + 128)))
                .fine(great.substring(at, at + 128), "string toupper " + Talk.word(all.substring(at, at + 128)));
        }
        talk.fine("", "string tolower {}").fine("", "string toupper {}");
    }

    private static void trims() {
        Talk talk = Talk.about("trim, trimleft, trimright x ?c? (of 9 to 13, 32)");
        for (int c = 0; c < 256; c++) {
            boolean trimmed = c == 32 || c >= 9 && c <= 13;
            String text = (char) c + "a" + (char) c;
            talk.fine(trimmed ? "a" : text, "string trim " + Talk.word(text));
        }
        talk.fine("a ", "string trimleft { a }").fine(" a", "string trimright { a }").fine("", "string trim {}").fine("", "string trim {  }")
            .fine("", "string trimleft {  }").fine("", "string trimright {  }").fine(" a ", "string trim { a } {}").fine("b", "string trim xyybx xy")
            .fine("bxyyx", "string trimleft xbxyyx x");
        talk.fine("xb", "string trimright xbxyyx xy").fine("", "string trim xyx xy").fine(" a", "string trim { ax} x")
            .fine("a  a", "string trim { a  a }");
    }

    private static void repeats() {
        Talk talk = Talk.about("repeat x n (below 0: 0)");
        talk.fine("", "string repeat a 0").fine("", "string repeat a -1").fine("", "string repeat a -9223372036854775808")
            .fine("a", "string repeat a 1").fine(MOST, "string repeat a 1024").fails("too long", "string repeat a 1025")
            .fails("too long", "string repeat a 9223372036854775807").fine("", "string repeat {} 9223372036854775807")
            .fails("too long", "string repeat a 4294967296");
        talk.fine("1023", "string length [string repeat abc 341]").fails("too long", "string repeat abc 342")
            .fails("not an integer: x", "string repeat a x").fails("not an integer: end", "string repeat a end")
            .fine("1024", "set x [string repeat a 1024]; string length [string repeat $x 1]")
            .fails("too long", "set x [string repeat a 1024]; string repeat $x 2").fine("", "set x [string repeat a 1024]; string repeat $x 0");
    }

    private static void reverses() {
        Talk talk = Talk.about("reverse x");
        talk.fine("", "string reverse {}").fine("a", "string reverse a").fine("ba", "string reverse ab").fine("cba", "string reverse abc")
            .fine("a".repeat(1023) + "b", "string reverse b[string repeat a 1023]");
    }

    private static void isInteger() {
        Talk talk = Talk.about("is integer x; Another: bad option: O");
        talk.fine("1", "string is integer 0").fine("0", "string is integer {}").fine("0", "string is integer end")
            .fails("bad option: digit", "string is digit 1").fails("bad option: ", "string is {} 1").fails("bad option: x", "string is x")
            .fails("bad option: x", "string is x 1 2").fails("wrong number of words: string", "string is")
            .fails("wrong number of words: string", "string is integer").fails("wrong number of words: string", "string is integer 1 2");
    }

    private static void maps() {
        Talk talk = Talk.about("map l x (pairs of what is looked for and what comes in its place, the first that stands there; not "
            + "empty ones; odd: bad list)");
        talk.fine("abc", "string map {} abc").fine("", "string map {a b} {}").fine("xbx", "string map {a x} aba").fine("bb", "string map {a {}} abab")
            .fine("xc", "string map {ab x a y} abc").fine("ybc", "string map {a y ab x} abc").fine("abc", "string map {{} x} abc")
            .fine("ybc", "string map {{} x a y} abc").fine("ba", "string map {a b b a} ab").fine("xa", "string map {aa x} aaa");
        talk.fails("bad list", "string map a abc").fails("bad list", "string map {a b c} abc").fails("bad list", "string map \\{ abc")
            .fine("", "string map {abc {}} abc").fine("ab", "string map {abc x} ab").fine("1", "string map {a 1 a 2} a")
            .fails("bad list", "string map {a b c} {}");
    }

    private static void options() {
        Talk talk = Talk.about("Another: bad option: O (so everywhere; of string, info ahead of the number of words)");
        talk.fails("bad option: x", "string x").fails("bad option: x", "string x a b c d e f").fails("bad option: ", "string {}")
            .fails("bad option: Length", "string Length a").fails("bad option: set", "string set a 1").fails("bad option: exists", "string exists a")
            .fails("wrong number of words: string", "string").fails("wrong number of words: string", "string length")
            .fails("bad option: length", "info length a");
    }

    /** Whether a pattern fits a text, by string match and by what else uses patterns. */
    private static void match(Talk talk, boolean fits, String pattern, String text) {
        String due = fits ? "1" : "0";
        talk.fine(due, "string match " + Talk.word(pattern) + " " + Talk.word(text));
        talk.fine(fits ? "0" : "-1", "lsearch [list " + Talk.word(text) + "] " + Talk.word(pattern));
        talk.fine(fits ? "y" : "n", "switch -glob " + Talk.word(text) + " " + Talk.word(pattern) + " {set x y} default {set x n}");
    }

    private static void fit(Talk talk, String pattern, String... texts) {
        for (String text : texts) {
            match(talk, true, pattern, text);
        }
    }

    private static void unfit(Talk talk, String pattern, String... texts) {
        for (String text : texts) {
            match(talk, false, pattern, text);
        }
    }

    private static void stars() {
        Talk talk = Talk.about("PATTERNS: * any bytes");
        fit(talk, "*", "", "a", "abc", "*", "\0\n\u00ff");
        fit(talk, "**", "", "a");
        fit(talk, "a*", "a", "ab", "aa");
        unfit(talk, "a*", "", "ba");
        fit(talk, "*a", "a", "ba", "aa");
        unfit(talk, "*a", "", "ab");
        fit(talk, "a*a", "aa", "aba", "aaa");
        unfit(talk, "a*a", "a", "ab", "ba");
        fit(talk, "*a*b*", "ab", "xaxbx", "aabb");
        unfit(talk, "*a*b*", "ba", "a", "b");
        fit(talk, "*ab*abc", "ababc", "abxabc", "ababababc");
        unfit(talk, "*ab*abc", "abc", "ababcx");
        fit(talk, "", "");
        unfit(talk, "", "a");
        talk.fine("1", "string match [string repeat a 512]* [string repeat a 1024]")
            .fine("0", "string match *[string repeat a 500]*[string repeat a 500] [string repeat a 999]")
            .fine("1", "string match *[string repeat a 500]*[string repeat a 500] [string repeat a 1000]");
    }

    private static void questionMarks() {
        Talk talk = Talk.about("PATTERNS: ? one byte");
        fit(talk, "?", "a", "?", "\n", "\0", "\u00ff");
        unfit(talk, "?", "", "ab");
        fit(talk, "a?c", "abc", "a?c");
        unfit(talk, "a?c", "ac", "abbc");
        fit(talk, "?*", "a", "ab");
        unfit(talk, "?*", "");
        fit(talk, "*?", "a", "ab");
        unfit(talk, "*??", "a", "");
        fit(talk, "*a+", "xa+", "a+");
        unfit(talk, "*a+", "xa", "a+b");
    }

    private static void sets() {
        Talk talk = Talk.about("[ one of those up to the first ] , or the end (without one nothing fits)");
        fit(talk, "[abc]", "a", "b", "c");
        unfit(talk, "[abc]", "d", "", "ab", "[", "]");
        unfit(talk, "[]", "", "]", "a", "[", "[]");
        unfit(talk, "[]a]", "a", "]", "aa]");
        unfit(talk, "[", "", "[", "a");
        fit(talk, "[a", "a");
        unfit(talk, "[a", "[a", "[", "");
        fit(talk, "[ab", "a", "b");
        fit(talk, "x[ab]y", "xay", "xby");
        unfit(talk, "x[ab]y", "xy", "xcy", "xaby");
        fit(talk, "[*?[]", "*", "?", "[");
        unfit(talk, "[*?[]", "a", "");
        fit(talk, "[^a]", "^", "a");
        unfit(talk, "[^a]", "b");
        fit(talk, "[!a]", "!", "a");
        unfit(talk, "*[", "", "a");
        fit(talk, "]", "]");
        fit(talk, "a]", "a]");
        fit(talk, "[ab]*", "a", "bx");
        fit(talk, "*[ab]", "a", "xxb");
    }

    private static void ranges() {
        Talk talk = Talk.about("(single ones, or low-high, the second one not being ] or the end; nothing when low is above high)");
        fit(talk, "[b-d]", "b", "c", "d");
        unfit(talk, "[b-d]", "a", "e", "-", "");
        fit(talk, "[b-b]", "b");
        unfit(talk, "[d-b]", "b", "c", "d", "-");
        fit(talk, "[d-bx]", "x");
        fit(talk, "[a-]", "a", "-");
        unfit(talk, "[a-]", "b", "]");
        fit(talk, "[a-", "a", "-");
        unfit(talk, "[a-", "b");
        fit(talk, "[-a]", "-", "a");
        unfit(talk, "[-a]", "b", ".");
        fit(talk, "[--0]", "-", ".", "/", "0");
        unfit(talk, "[--0]", ",", "1");
        fit(talk, "[a-c-e]", "a", "b", "c", "-", "e");
        unfit(talk, "[a-c-e]", "d");
        fit(talk, "[a-cx-z]", "b", "y");
        fit(talk, "[\0-\u00ff]", "\0", "a", "\u00ff");
        fit(talk, "[a-c", "b");
        fit(talk, "[+--]", "+", ",", "-");
        unfit(talk, "[+--]", ".", "*");
        unfit(talk, "[a-]b]", "b", "a");
        fit(talk, "[a-]b]", "ab]", "-b]");
    }

    private static void backslashes() {
        Talk talk = Talk.about("a backslash: the next byte itself, in [ ], too, where it ends no set and may end a range (at the end "
            + "itself)");
        fit(talk, "\\*", "*");
        unfit(talk, "\\*", "", "a", "\\*");
        fit(talk, "\\?", "?");
        unfit(talk, "\\?", "a");
        fit(talk, "\\[a]", "[a]");
        unfit(talk, "\\[a]", "a");
        fit(talk, "\\\\", "\\");
        fit(talk, "\\a", "a");
        unfit(talk, "\\a", "\\a", "\7");
        fit(talk, "\\", "\\");
        fit(talk, "a\\", "a\\");
        unfit(talk, "\\", "", "a");
        fit(talk, "[\\]]", "]");
        unfit(talk, "[\\]]", "\\", "\\]");
        fit(talk, "[a\\]b]", "a", "]", "b");
        fit(talk, "[\\a-c]", "a", "b", "c");
        unfit(talk, "[\\a-c]", "\\", "-");
        fit(talk, "[a\\-c]", "a", "-", "c");
        unfit(talk, "[a\\-c]", "b", "\\");
        fit(talk, "[a-\\c]", "a", "b", "c");
        unfit(talk, "[a-\\c]", "\\", "-");
        fit(talk, "[Z-\\]]", "Z", "[", "\\", "]");
        unfit(talk, "[Z-\\]]", "^", "-");
        fit(talk, "[\\", "\\");
        fit(talk, "[a\\", "a", "\\");
        fit(talk, "[Z-\\", "Z", "[", "\\");
        unfit(talk, "[Z-\\", "]", "-");
        unfit(talk, "[a-\\", "a", "\\", "-");
        fit(talk, "[\\\\]", "\\");
        fit(talk, "[\\]-a]", "]", "^", "a");
    }

    private static void flags() {
        Talk talk = Talk.about("any of - 0 + space, as often as one likes; - at the left, 0 (not with - , c, s)");
        talk.fine("5   |", "format %-4d| 5").fine("5   |", "format %----4d| 5").fine("0005|", "format %000004d| 5").fine("5   |", "format %-04d| 5")
            .fine("5   |", "format %0-4d| 5").fine("+5", "format %++++d 5").fine("+5", "format {%+ + d} 5").fine(" 5", "format {%    d} 5")
            .fine("+5  |", "format %-0+4d| 5");
        talk.fine("   A|A   |   A", "format %4c|%-4c|%04c 65 65 65").fine("   a|a   |   a", "format %4s|%-4s|%04s a a a")
            .fine("ff  |", "format %-04x| 255").fine("ff", "format {%0+ -x} 255");
    }

    private static void widths() {
        Talk talk = Talk.about("a width (above 1024: too long)");
        talk.fine("5", "format %0d 5").fine("5", "format %1d 5").fine(" 5", "format %2d 5").fine("12345", "format %3d 12345")
            .fine(" ".repeat(1023) + "5", "format %1024d 5").fails("too long", "format %1025d 5").fails("too long", "format %1025s {}")
            .fails("too long", "format %1025% 5").fails("too long", "format %4294967297d 5").fails("too long", "format %" + "9".repeat(50) + "d 5");
        talk.fine("a" + " ".repeat(1023), "format %-1024s a").fine("0".repeat(1023) + "f", "format %01024x 15")
            .fine("+" + "0".repeat(1022) + "5", "format %+01024d 5").fine("    5", "format %5d 5").fine("%", "format %1024%")
            .fails("too long", "format %1025q").fails("too long", "format %1025d").fails("too long", "format %1025");
        talk.fine("5", "format %-0001d 5").fine("   ", "format %3s {}").fine("", "format %s {}");
    }

    private static void conversions() {
        Talk talk = Talk.about("d x X o (of 64 bits) c (the byte of the lowest 8 bits) s; all but s integers");
        talk.fine("-9223372036854775808 9223372036854775807 0", "format {%d %d %d} -9223372036854775808 9223372036854775807 -0")
            .fine("ffffffffffffffff 8000000000000000 0", "format {%x %x %x} -1 -9223372036854775808 0").fine("ABCDEF", "format %X 0xabcdef")
            .fine("abcdef09", "format %x 0xabcdef09").fine("1777777777777777777777 0 7 10", "format {%o %o %o %o} -1 0 7 8");
        talk.fine("\0\u00ff\0\u00ffA", "format %c%c%c%c%c 0 255 256 -1 321").fine("a {} ", "format {%s {} %s} a {}").fine("1a", "format %s%s 1 a")
            .fine("007", "format %s 007").fine("7", "format %d 007").fine("-16", "format %d -0x10");
        for (String kind : new String[] {"d", "x", "X", "o", "c"}) {
            talk.fails("not an integer: a", "format %" + kind + " a").fails("not an integer: ", "format %" + kind + " {}")
                .fails("not an integer: 9223372036854775808", "format %" + kind + " 9223372036854775808");
        }
    }

    private static void zeros() {
        Talk talk = Talk.about("0s behind the sign; of the others nothing, and 0s stand ahead of all their digits");
        talk.fine("-005", "format %04d -5").fine("+005", "format %+04d 5").fine(" 005", "format {% 04d} 5").fine("-5", "format %02d -5")
            .fine("-5", "format %01d -5").fine("0000", "format %04d 0").fine("000f", "format %04x 15").fine("000F", "format %+04X 15")
            .fine("0017", "format {% 04o} 15").fine("00ffffffffffffffff", "format %018x -1");
        talk.fine("-9223372036854775808", "format %020d -9223372036854775808").fine("-09223372036854775808", "format %021d -9223372036854775808")
            .fine("01777777777777777777777", "format %023o -1");
    }

    private static void signs() {
        Talk talk = Talk.about("+ or space ahead of d not below 0 (+ first; of the others nothing)");
        talk.fine("+5 +0 -5", "format {%+d %+d %+d} 5 0 -5").fine(" 5  0 -5", "format {% d % d % d} 5 0 -5").fine("+5 +5", "format {%+ d % +d} 5 5")
            .fine("f f 17 17 A A", "format {%+x % x %+o % o %+c % c} 15 15 15 15 65 65").fine("a a", "format {%+s % s} a a")
            .fine("  +5|+5  |", "format %+4d|%-+4d| 5 5");
    }

    private static void badFormats() {
        Talk talk = Talk.about("others, or nothing behind: bad format: F; too few words: not enough words: format");
        String taken = "dxXocs%";
        for (int c = 33; c < 127; c++) {
            if (taken.indexOf((char) c) < 0 && !(c >= '0' && c <= '9') && c != '-' && c != '+') {
                talk.fails("bad format: a%" + (char) c + "b", "format " + Talk.word("a%" + (char) c + "b") + " 5");
            }
        }
        talk.fails("bad format: %", "format %").fails("bad format: a%", "format a%").fails("bad format: %-", "format %-")
            .fails("bad format: %5", "format %5").fails("bad format: %05", "format %05 1").fails("bad format: %5-d", "format %5-d 1")
            .fails("bad format: %.1d", "format %.1d 1").fails("bad format: %ld", "format %ld 1").fails("bad format: %\0", "format %\0");
        talk.fails("bad format: %", "format % d").fails("bad format: %5", "format %5 d").fails("bad format: %-", "format %- d")
            .fails("bad format: %102", "format %102 5")
            .fails("bad format: %5:d", "format %5:d 1").fails("bad format: %5/d", "format %5/d 1");
        talk.fails("not enough words: format", "format %d").fails("not enough words: format", "format %s")
            .fails("not enough words: format", "format %s%s a").fails("not enough words: format", "format %%%c").fine("a", "format %s a b c")
            .fine("", "format {}").fine("", "format {} a").fails("wrong number of words: format", "format");
    }

    private static void formatOrder() {
        Talk talk = Talk.about("in the order of f");
        talk.fails("not an integer: a", "format %d%q a").fails("bad format: %q%d", "format %q%d a")
            .fails("not enough words: format", "format %s%d%q a").fails("not an integer: a", "format %d%d a")
            .fails("not an integer: b", "format %s%d%d a b c").fails("bad format: %s%", "format %s% a")
            .fails("not enough words: format", "format %d%");
    }

    private static void longFormats() {
        Talk talk = Talk.about("too long as soon as one of these makes it so, ahead of what is behind");
        talk.fine("1024", "string length [format %1023dx 5]").fails("too long", "format %1024d%d 5 6").fails("too long", "format %1024d%d%q 5 6")
            .fails("bad format: %1024d%q%d", "format %1024d%q%d 5 6").fails("not an integer: y", "format %1024d%d 5 y")
            .fails("not enough words: format", "format %1024d%d 5").fails("too long", "format %1000d%25d%d 5 6 y");
        talk.fails("not an integer: y", "format %1000d%24d%d 5 6 y").fails("too long", "format %1024d%% 5")
            .fine("1024", "string length [format %1024d%s 5 {}]").fails("too long", "format %s%s [string repeat a 1000] [string repeat a 25]")
            .fine("1024", "string length [format %s%s [string repeat a 1000] [string repeat a 24]]").fails("too long", "format %1000da%24d 5 6");
    }

    private static void percents() {
        Talk talk = Talk.about("%% with any of these is a %; words too many are nothing");
        talk.fine("%", "format %%").fine("%", "format {%-0+ 5%}").fine("%", "format %1024%").fine("%5", "format %%%d 5").fine("%%", "format %%%%")
            .fine("%", "format %% a b").fine("5%", "format %d%% 5 6 7").fine("%d", "format %%d 5");
    }
}
