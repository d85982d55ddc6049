/** The boundary cases of EXPRESSIONS. */
public final class EdgeSumTest {
    private static final String HIGHEST = "9223372036854775807";
    private static final String LOWEST = "(-9223372036854775807-1)";
    private static final String LOWEST_TEXT = "-9223372036854775808";

    /** The operators between operands, the weakest first. */
    private static final String[][] STRENGTHS = {
        {"||"}, {"&&"}, {"|"}, {"^"}, {"&"}, {"==", "!=", "eq", "ne"}, {"<", "<=", ">", ">="}, {"<<", ">>"}, {"+", "-"}, {"*", "/", "%"}
    };

    public static void main(String[] args) {
        empty();
        readWhole();
        depth();
        wordsAside();
        depthMixed();
        orderOfOperators();
        pairsOfOperators();
        fromLeft();
        numbers();
        quotesAndBraces();
        dollarsAndBrackets();
        functions();
        gaps();
        workedOut();
        needed();
        comparisons();
        notIntegers();
        wraps();
        divisions();
        shifts();
        truths();
        asItIs();
        absolute();
        Talk.finish();
    }

    private static void is(Talk talk, String result, String expression) {
        talk.fine(result, "set a 3; set b abc; set c(1) 5; expr {" + expression + "}");
    }

    private static void fails(Talk talk, String message, String expression) {
        talk.fails(message, "set a 3; set b abc; set c(1) 5; expr {" + expression + "}");
    }

    /** Texts that can't be read, as one word of expr. */
    private static void bad(Talk talk, String... texts) {
        for (String text : texts) {
            talk.fails("bad expression: " + text, "set a 3; expr " + Talk.word(text));
        }
    }

    private static void empty() {
        Talk talk = Talk.about("one that can't be, an empty one, too: bad expression: TEXT");
        bad(talk, "", " ", "\n", "\t\\\n ", "()", "1 +", "+", "1 2", "(1", "1)", "(", ")", "1 ?", "1 ? 2", "1 ? 2 :", "1 ? : 2", "1 ? 2 ; 3",
            "1 ? 2 ) 3", "1 ? 2 , 3", "(1,", "(1]", "(1;", "(1 2)", "abs(1,", "abs(1 2)", "min(1;2)", "min(1)2)", "max(1:2)", "max(1,2;", "? 1 : 2",
            "1 : 2",
            "1,2", ",", "&&", "1 &&", "&& 1", "1 ||| 1", "1 = 1", "1 === 1", "1 <> 1", "1 ! 1", "1 ~ 1", "a", "abc", "true", ".5", "1.5", ";", "1;",
            "#", "1 # a", "]", "}", "'a'");
        talk.fails("bad expression: ", "if {} {}").fails("bad expression: ", "while {} {}").fails("bad expression: ", "for {} {} {} {}")
            .fails("bad expression: 1 2", "expr 1 2").fails("bad expression:  ", "expr {} {}")
            .refuses("bad expression: 1 +", "set x 5; expr {1 +}", "5", "set x");
    }

    private static void readWhole() {
        Talk talk = Talk.about("EXPRESSIONS are read whole, brackets in them, too");
        bad(talk, "\"a", "{a", "[set x", "[set x {a}b]", "[set x \"a]", "$a(1", "${a", "\"[\"", "[set x \"a\"b]", "\"$a(\"", "1 + [list", "{a}}",
            "\"a\"\"b\"", "$a$a", "[list][list]", "{a}b", "\"a\"1");
        talk.tells("", "catch {expr {[puts a] + }}").tells("", "catch {expr {[puts a] + [puts b}}").tells("", "catch {expr {1 || (}}")
            .tells("", "catch {expr {[puts a] ? 1}}");
    }

    private static String nest(String open, int times, String core, String close) {
        return open.repeat(times) + core + close.repeat(times);
    }

    private static void depth() {
        Talk talk = Talk.about("too deep: more than 8 brackets, INDEXES, parentheses, functions, and second and third parts of ? : "
            + "within one another, the whole one counted, too");
        String[][] parts = {{"(", "1", ")", "1"}, {"abs(", "1", ")", "1"}, {"max(0,", "1", ")", "1"}, {"min(", "1", ",9)", "1"},
            {"[set x ", "1", "]", "1"}, {"1?", "9", ":0", "9"}, {"0?1:", "9", "", "9"}, {"-(", "0", ")", "0"}, {"0||(", "1", ")", "1"}};
        for (String[] part : parts) {
            is(talk, part[3], nest(part[0], 7, part[1], part[2]));
            fails(talk, "too deep", nest(part[0], 8, part[1], part[2]));
            fails(talk, "too deep", nest(part[0], 9, part[1], part[2]));
        }
        talk.fine("5", "set c(5) 5; expr {" + nest("$c(", 7, "5", ")") + "}").fails("too deep", "set c(5) 5; expr {" + nest("$c(", 8, "5", ")") + "}")
            .refuses("too deep", "expr {" + nest("(", 8, "1", ")") + "}", "7", "expr {" + nest("(", 7, "7", ")") + "}");
        fails(talk, "too deep", "(".repeat(8));
        bad(talk, "(".repeat(7));
        is(talk, "1", "0 || ".repeat(100) + "1");
        is(talk, "1", "(1) && ".repeat(50) + "1");
        is(talk, "-1", "-".repeat(501) + "1");
        is(talk, "9", "1 ? 9 : 0 + ((((((1))))))");
    }

    /** An expression that is a word of if, with a body behind it that would go on with it. */
    private static void wordsAside() {
        Talk talk = Talk.about("EXPRESSIONS are read whole (what lies behind one is not of it)");
        String[][] bodies = {{"1", "2"}, {"1", "x"}, {"1", "+ 1"}, {"$a", "b"}, {"$a", "(b)"}, {"0x1", "f"}, {"{1}", "{"}, {"\"1\"", "\""},
            {"(1)", ")"}, {"[set a]", "]"}, {"1 ", "2"}, {"1", "? 1 : 2"}, {"1", "\n"}, {"abs(1)", ")"}};
        for (String[] body : bodies) {
            talk.run("set a 1; set ab x; set a(b) x; if " + Talk.word(body[0]) + " " + Talk.word(body[1]));
            Talk.check(body[0] + " with " + body[1], talk.out().startsWith("bad expression") || talk.out().startsWith("not an integer"), false);
        }
        String[][] bads = {{"1 +", "1"}, {"1 <", "= 1"}, {"1 |", "| 1"}, {"abs", "(1)"}, {"(1", ")"}, {"{1", "}"}, {"\"1", "\""}, {"[set a", "]"},
            {"$a(b", ")"}, {"${a", "}"}, {"1 ? 2", ": 3"}, {"1 ? 2 :", "3"}, {"$", "a"}, {"$", "{a}"}, {"-", "1"}, {"", "1"},
            {"1 =", "= 1"}, {"1 !", "= 1"}, {"1 e", "q 1"}, {"1 n", "e 1"}, {"ab", "s(1)"}, {"max(1,", "2)"}, {"0x", "1"}, {"1\\", "\n"}};
        for (String[] bad : bads) {
            talk.fails("bad expression: " + bad[0], "set a 1; if " + Talk.word(bad[0]) + " " + Talk.word(bad[1]));
        }
    }

    private static void depthMixed() {
        Talk talk = Talk.about("more than 8 ... within one another (of all kinds together)");
        is(talk, "5", "abs(1 ? (0 ? 1 : max([set x $c(1)], 2)) : 0)");
        fails(talk, "too deep", "abs(1 ? (0 ? 1 : max([set x $c([set y 1])], 2)) : 0)");
        fails(talk, "too deep", "(abs(1 ? (0 ? 1 : max([set x $c(1)], 2)) : 0))");
        is(talk, "5", "((((((\"$c(1)\"))))))");
        fails(talk, "too deep", "(((((((\"$c(1)\")))))))");
        is(talk, "1", "1 || " + nest("(", 7, "1", ")"));
        fails(talk, "too deep", "1 || " + nest("(", 8, "1", ")"));
        is(talk, "2", "1 ? 2 : " + nest("(", 6, "1", ")"));
        fails(talk, "too deep", "1 ? 2 : " + nest("(", 7, "1", ")"));
        fails(talk, "too deep", "1 ? " + nest("(", 7, "1", ")") + " : 2");
        is(talk, "3", nest("(", 7, "1 + 2", ")") + " ? 3 : 4");
        is(talk, "10", nest("(", 7, "5", ")") + "+" + nest("(", 7, "5", ")"));
        is(talk, "1", "[expr {" + nest("(", 7, "1", ")") + "}]");
    }

    private static void orderOfOperators() {
        Talk talk = Talk.about("From the weakest on: c ? x : y ; || ; && ; | ; ^ ; & ; == != eq ne ; < <= > >= ; << >> ; + - ; * / % ; "
            + "the signs");
        String[][] sums = {{"5", "0||0?4:5"}, {"1", "1||0&&0"}, {"1", "1&&2|0"}, {"3", "2|3^2"}, {"3", "1^3&2"}, {"0", "3&2==3"}, {"1", "1==2<3"},
            {"1", "1<1<<1"}, {"8", "1<<1+2"}, {"7", "1+2*3"}, {"-6", "-2*3"}, {"1", "!0+0"}, {"-2", "~0-1"}, {"1", "2!=1>2"},
            {"0", "1 eq 2 < 3 == 0"}, {"2", "7-4-1"}, {"1", "8/4/2"}, {"4", "2*7%3*2"}, {"15", "1+2<<1|1&3|9"}};
        for (String[] sum : sums) {
            is(talk, sum[0], sum[1]);
        }
    }

    private static int strength(String operator) {
        for (int i = 0; i < STRENGTHS.length; i++) {
            for (String other : STRENGTHS[i]) {
                if (other.equals(operator)) {
                    return i;
                }
            }
        }
        throw new IllegalArgumentException(operator);
    }

    private static long truth(boolean is) {
        return is ? 1 : 0;
    }

    private static long apply(String operator, long a, long b) {
        switch (operator) {
            case "||": return truth(a != 0 || b != 0);
            case "&&": return truth(a != 0 && b != 0);
            case "|": return a | b;
            case "^": return a ^ b;
            case "&": return a & b;
            case "==": case "eq": return truth(a == b);
            case "!=": case "ne": return truth(a != b);
            case "<": return truth(a < b);
            case "<=": return truth(a <= b);
            case ">": return truth(a > b);
            case ">=": return truth(a >= b);
            case "<<": return a << b;
            case ">>": return a >> b;
            case "+": return a + b;
            case "-": return a - b;
            case "*": return a * b;
            case "/": return Math.floorDiv(a, b);
            default: return Math.floorMod(a, b);
        }
    }

    /** Whether an operator can be applied, and its result can be an operand of any other. */
    private static boolean isPlain(String operator, long a, long b) {
        boolean divides = operator.equals("/") || operator.equals("%");
        boolean shifts = operator.equals("<<") || operator.equals(">>");
        return !(divides && b == 0) && !(shifts && (b < 0 || b > 63));
    }

    /** Looks at two operators between numbers of which it matters which operator comes first. */
    private static void lookAtPair(Talk talk, String first, String second) {
        boolean fromLeft = strength(first) >= strength(second);
        int looked = 0;
        for (int i = 0; i < 1000 && looked < 2; i++) {
            long a = i % 10;
            long b = i / 10 % 10;
            long c = i / 100;
            if (isPlain(first, a, b) && isPlain(second, b, c) && isPlain(second, apply(first, a, b), c) && isPlain(first, a, apply(second, b, c))) {
                long left = apply(second, apply(first, a, b), c);
                long right = apply(first, a, apply(second, b, c));
                if (left != right) {
                    looked++;
                    is(talk, Long.toString(fromLeft ? left : right), a + " " + first + " " + b + " " + second + " " + c);
                }
            }
        }
    }

    private static void pairsOfOperators() {
        Talk talk = Talk.about("From the weakest on: || ; && ; | ; ^ ; & ; == != eq ne ; < <= > >= ; << >> ; + - ; * / % (each of them with each)");
        for (String[] firsts : STRENGTHS) {
            for (String first : firsts) {
                for (String[] seconds : STRENGTHS) {
                    for (String second : seconds) {
                        lookAtPair(talk, first, second);
                    }
                }
            }
        }
    }

    private static void fromLeft() {
        Talk talk = Talk.about("(these from the left but for ? : and the signs)");
        is(talk, "1", "5-3-1");
        is(talk, "2", "20/5/2");
        is(talk, "6", "20%7%8");
        is(talk, "16", "1<<2<<2");
        is(talk, "1", "16>>2>>2");
        is(talk, "0", "3>2>1");
        is(talk, "1", "1<2<2");
        is(talk, "1", "2==2==1");
        is(talk, "0", "2!=2!=0");
        is(talk, "5", "1?2?5:6:7");
        is(talk, "3", "0?1:0?2:3");
        is(talk, "1", "1?1:0?2:3");
        is(talk, "6", "~-+7");
        is(talk, "-8", "~+7");
        is(talk, "8", "-~7");
    }

    private static void numbers() {
        Talk talk = Talk.about("integers that begin with a digit (with all A .. Z, a .. z, digits, _ behind; what is none then: bad "
            + "expression: TEXT)");
        is(talk, HIGHEST, HIGHEST);
        is(talk, "0xffffffffffffffff", "0xffffffffffffffff");
        is(talk, "-1", "0xffffffffffffffff+0");
        is(talk, "0x0000000000000001", "0x0000000000000001");
        is(talk, "007", "007");
        is(talk, "0x1F", "0x1F");
        is(talk, "4", "1+3");
        is(talk, "1", "1 eq 1");
        bad(talk, "9223372036854775808", "-9223372036854775808", "99999999999999999999", "0x", "0x10000000000000000", "0X1", "12a", "1_", "0xg",
            "1eq1", "1eq 1", "0x1z", "1A", "1ne2", "00x1", "1Z", "1a");
    }

    private static void quotesAndBraces() {
        Talk talk = Talk.about("\"...\" and {...} as words");
        is(talk, "", "\"\"");
        is(talk, "", "{}");
        is(talk, "a3", "\"a$a\"");
        is(talk, "a$a", "{a$a}");
        is(talk, "a\"b", "\"a\\\"b\"");
        is(talk, "a b", "{a\\\n b}");
        is(talk, "a b", "\"a\\\n b\"");
        is(talk, "{}", "{{}}");
        is(talk, "A", "\"\\x41\"");
        is(talk, "\\x41", "{\\x41}");
        is(talk, "1", "{a}eq\"a\"");
        is(talk, "1", "(\"a\")eq({a})");
        is(talk, "1", "\"\" eq {}");
        is(talk, "4", "{1}+\"3\"");
        is(talk, "x", "\"[set x \"x\"]\"");
    }

    private static void dollarsAndBrackets() {
        Talk talk = Talk.about("$NAME and [ ] as there");
        is(talk, "3", "$a");
        is(talk, "3", "${a}");
        is(talk, "5", "$c(1)");
        is(talk, "5", "$c([expr {$a-2}])");
        is(talk, "", "[]");
        is(talk, "2", "[set x 1; set x 2]");
        fails(talk, "no such variable: nosuch", "$nosuch");
        fails(talk, "no such variable: ", "${}");
        fails(talk, "no such variable: a(1)", "$a(1)");
        fails(talk, "boo", "[error boo]");
        bad(talk, "$", "$ a", "$-1", "$(a)", "1+$", "$a $a", "$a (1)");
        talk.fine("r", "proc f {} {expr {1 + [return r]}; set x 1}; f").fine("3", "catch {expr {[break]}}");
    }

    private static void functions() {
        Talk talk = Talk.about("( ), abs( ) min( , ) max( , )");
        is(talk, "5", "abs(-5)");
        is(talk, "0", "abs(0)");
        is(talk, "-5", "min(-5,5)");
        is(talk, "5", "max(-5,5)");
        is(talk, "5", "max(5,-5)");
        is(talk, "-5", "min(5,-5)");
        is(talk, "4", "min(4,4)");
        is(talk, "7", "max(007,6)");
        is(talk, LOWEST_TEXT, "min(" + LOWEST + "," + HIGHEST + ")");
        is(talk, HIGHEST, "max(" + LOWEST + "," + HIGHEST + ")");
        is(talk, "3", "max(1 ? 2 : 9, 3)");
        bad(talk, "abs", "abs()", "abs(1,2)", "min(1)", "min()", "min(1,)", "min(,1)", "min(1,2,3)", "max(1)", "max(1,2,3)", "abs 1", "abs(1",
            "min(1,2", "Abs(1)", "ABS(1)", "abs1(1)", "absx(1)", "ab(1)", "mid(1,2)", "(1,2)", "(1)(2)", "abs[1]", "min");
        fails(talk, "not an integer: abc", "abs($b)");
        fails(talk, "not an integer: abc", "min($b,\"x\")");
        fails(talk, "not an integer: x", "max(1,\"x\")");
        fails(talk, "not an integer: ", "max(\"\",1)");
    }

    private static void gaps() {
        Talk talk = Talk.about("Blanks and newlines may stand between (also ahead of the ( of abs)");
        is(talk, "3", " 1 + 2 ");
        is(talk, "3", "\n1\n+\n2\n");
        is(talk, "3", "\t1\\\n + \\\n\n\\\n2\t");
        is(talk, "5", "abs (-5)");
        is(talk, "5", "max\n \\\n(\n5\n,\t4 )");
        is(talk, "2", "1 ?\n2\n:\n3");
        is(talk, "5", "- -\n-\t-5");
        is(talk, "3", "( ( 3 ) )");
        bad(talk, "1 \13+ 2", "1\r", "\f1", "1 < < 2", "1 & & 1", "1 = = 1", "1 ! = 1", "a bs(1)", "\0");
        is(talk, "1", "1||1");
    }

    private static void workedOut() {
        Talk talk = Talk.about("Operands are worked out from the left, both ahead of being asked as integers");
        for (String operator : new String[] {"+", "-", "*", "/", "%", "<<", ">>", "&", "|", "^"}) {
            talk.tells("\3a\n\3b\n", "expr {[puts a] " + operator + " [puts b]}").fails("not an integer: x", "expr {\"x\" " + operator + " \"y\"}")
                .fails("not an integer: y", "expr {1 " + operator + " \"y\"}").fails("no such variable: n", "expr {\"x\" " + operator + " $n}");
        }
        talk.tells("\3a\n\3b\n", "expr {min([puts a], [puts b])}").tells("\3a\n", "expr {-[puts a] + [puts b]}")
            .tells("\3a\n\3b\n", "expr {[puts a] + [puts b] + [puts c]}").fails("not an integer: y", "expr {\"x\" + 1 * \"y\"}")
            .fails("divided by zero", "expr {\"x\" + 1 / 0}");
    }

    private static void needed() {
        Talk talk = Talk.about("of || && ? : only what is needed");
        talk.tells("\3a\n", "expr {[puts a; format 1] || [puts b; format 1]}").tells("\3a\n", "expr {[puts a; format 0] && [puts b]}")
            .tells("\3a\n\3b\n", "expr {[puts a; format 0] || [puts b; format 1] || [puts c]}")
            .tells("\3a\n\3b\n", "expr {[puts a; format 1] ? [puts b] : [puts c]}")
            .tells("\3a\n\3c\n", "expr {[puts a; format 0] ? [puts b] : [puts c]}");
        is(talk, "1", "1 || $nosuch");
        is(talk, "0", "0 && $nosuch");
        is(talk, "1", "1 || 0 && $nosuch");
        is(talk, "0", "0 && $nosuch || 0");
        is(talk, "1", "0 && $nosuch + 1 == 2 || 1");
        is(talk, "2", "1 ? 2 : $nosuch");
        is(talk, "2", "0 ? $nosuch : 2");
        is(talk, "1", "1 || 1 / 0");
        is(talk, "1", "1 || \"x\"");
        is(talk, "4", "0 ? 1 ? $nosuch : 2 : 4");
        fails(talk, "no such variable: nosuch", "0 || $nosuch");
        fails(talk, "divided by zero", "1 && 1 / 0");
        talk.costs(3, "expr {1 || [list]}; list");
    }

    private static void comparisons() {
        Talk talk = Talk.about("== != < <= > >= compare integers, if both are, else bytes; eq ne bytes");
        String[][] sums = {{"1", "0x10 == 16"}, {"0", "0x10 eq 16"}, {"1", "0x10 ne 16"}, {"1", "\"+1\" == 1"}, {"0", "\"1 \" == 1"}, {"1", "10 > 9"},
            {"0", "\"10\" < \"9\""}, {"1", "\"10\" < \"9x\""}, {"1", "\"\" == \"\""}, {"1", "\"\" < 0"}, {"0", "\"\" == 0"}, {"1", "\"a\" < \"b\""},
            {"1", "\"a\" < \"ab\""},
            {"1", "\"a\" <= \"a\""}, {"1", "\"a\" >= \"a\""}, {"0", "\"a\" > \"a\""}, {"0", "\"a\" < \"a\""}, {"1", "2 <= 2"}, {"0", "3 <= 2"},
                {"1", "2 >= 2"}, {"0", "1 >= 2"}, {"0", "2 < 2"}, {"0", "2 > 2"}, {"1", "-1 < 0"}, {"1", LOWEST + " < " + HIGHEST},
                {"1", "0xffffffffffffffff < 0"}, {"1", "\"9223372036854775808\" > 1"}, {"1", "\"10000000000000000000\" < 9"}, {"1", "\"-\" < 0"},
                {"1", "\"\u00ff\" > \"a\""}, {"1", "\"a\" ne \"A\""}, {"0", "\"a\" eq \"A\""}, {"1", "\"-0\" == 0"}, {"0", "\"-0\" eq 0"}};
        for (String[] sum : sums) {
            is(talk, sum[0], sum[1]);
        }
    }

    private static void notIntegers() {
        Talk talk = Talk.about("others need integers (not an integer: TEXT)");
        for (String sign : new String[] {"-", "+", "!", "~"}) {
            fails(talk, "not an integer: abc", sign + "$b");
            fails(talk, "not an integer: ", sign + "{}");
        }
        for (String text : new String[] {"", " ", "1 ", "a", "1.5", "9223372036854775808", "0x", "end"}) {
            talk.fails("not an integer: " + text, "expr {\"" + text + "\" + 1}").fails("not an integer: " + text, "expr {1 * \"" + text + "\"}")
                .fails("not an integer: " + text, "expr {\"" + text + "\" ? 1 : 2}").fails("not an integer: " + text, "expr {1 && \"" + text + "\"}");
        }
    }

    private static void wraps() {
        Talk talk = Talk.about("+ - * << - wrap");
        is(talk, LOWEST_TEXT, HIGHEST + " + 1");
        is(talk, HIGHEST, LOWEST + " - 1");
        is(talk, HIGHEST, LOWEST + " + -1");
        is(talk, "-2", HIGHEST + " * 2");
        is(talk, "0", LOWEST + " * 2");
        is(talk, LOWEST_TEXT, LOWEST + " * -1");
        is(talk, LOWEST_TEXT, "-" + LOWEST);
        is(talk, LOWEST_TEXT, "0 - " + LOWEST);
        is(talk, "-2", HIGHEST + " << 1");
        is(talk, LOWEST_TEXT, "1 << 63");
        is(talk, LOWEST_TEXT, "3 << 63");
        is(talk, "0", "2 << 63");
        is(talk, HIGHEST, "~" + LOWEST);
    }

    private static void divisions() {
        Talk talk = Talk.about("/ % go downwards (by 0: divided by zero)");
        String[][] sums = {{"3", "7 / 2"}, {"-4", "-7 / 2"}, {"-4", "7 / -2"}, {"3", "-7 / -2"}, {"1", "7 % 2"}, {"1", "-7 % 2"}, {"-1", "7 % -2"},
            {"-1", "-7 % -2"}, {"0", "6 % 3"}, {"0", "-6 % 3"}, {"-2", "-6 / 3"}, {"0", "0 / 5"}, {"0", "0 % -5"}, {"-1", "-1 / " + HIGHEST},
            {"0", "1 / 2"}, {"-1", "-1 / 2"}, {"-1", "1 / -2"},
            {LOWEST_TEXT, LOWEST + " / -1"}, {"0", LOWEST + " % -1"}, {LOWEST_TEXT, LOWEST + " / 1"}, {"9223372036854775806", "-1 % " + HIGHEST},
                {"-9223372036854775807", "1 % " + LOWEST}};
        for (String[] sum : sums) {
            is(talk, sum[0], sum[1]);
        }
        for (String sum : new String[] {"1 / 0", "1 % 0", "0 / 0", "0 % 0", LOWEST + " / 0", "1 / -0", "1 % 0x0"}) {
            fails(talk, "divided by zero", sum);
        }
        talk.refuses("divided by zero", "set x [expr {1 / 0}]", "0", "info exists x");
    }

    private static void shifts() {
        Talk talk = Talk.about("counts of shifts below 0: negative shift, above 63: all out (of >> 0, or -1 below 0)");
        String[][] sums = {{"5", "5 << 0"}, {"5", "5 >> 0"}, {LOWEST_TEXT, "1 << 63"}, {"0", "1 << 64"}, {"0", "-1 << 64"}, {"0", "1 << 65"},
            {"0", "1 << " + HIGHEST}, {"0", "1 << 4294967296"}, {"0", HIGHEST + " >> 63"}, {"1", HIGHEST + " >> 62"}, {"-1", LOWEST + " >> 63"},
            {"-2", LOWEST + " >> 62"}, {"0", HIGHEST + " >> 64"}, {"-1", "-1 >> 64"}, {"-1", LOWEST + " >> 64"}, {"-1", "-5 >> " + HIGHEST},
            {"0", "5 >> 4294967297"}, {"-3", "-5 >> 1"}, {"0", "0 >> 99"}};
        for (String[] sum : sums) {
            is(talk, sum[0], sum[1]);
        }
        for (String sum : new String[] {"1 << -1", "1 >> -1", "0 << -1", "1 << " + LOWEST, "1 >> " + LOWEST, "1 << 0xffffffffffffffff"}) {
            fails(talk, "negative shift", sum);
        }
    }

    private static void truths() {
        Talk talk = Talk.about("A truth is 1 or 0; what is asked as one is an integer, true if it isn't 0.");
        String[][] sums = {{"1", "5 || 0"}, {"1", "0 || -5"}, {"0", "0 || 0"}, {"1", "5 && 7"}, {"0", "5 && 0"}, {"0", "0 && 5"}, {"0", "!5"},
            {"1", "!0"}, {"1", "!!5"}, {"1", "\"0x1\" && \"+1\""}, {"0", "\"-0\" || \"00\""}, {"7", "-1 ? 7 : 8"}, {"8", "0x0 ? 7 : 8"},
            {"1", LOWEST + " && 1"}, {"1", "4294967296 && 1"}};
        for (String[] sum : sums) {
            is(talk, sum[0], sum[1]);
        }
        fails(talk, "not an integer: true", "\"true\" || 1");
        fails(talk, "not an integer: ", "\"\" ? 1 : 2");
        talk.fine("y", "if 4294967296 {set x y} {set x n}").fine("n", "if \"-0\" {set x y} {set x n}").fails("not an integer: x", "if {\"x\"} {}")
            .fails("not an integer: x", "while {\"x\"} {}").fails("not an integer: ", "if {[list]} {}");
    }

    private static void asItIs() {
        Talk talk = Talk.about("The result of an operand alone (in ( ), behind ? and : , too) is its text as it is.");
        String[][] sums = {{"007", "007"}, {"007", "(007)"}, {"0x1F", "((0x1F))"}, {"007", "1 ? 007 : 8"}, {"007", "0 ? 8 : 007"}, {" a ", "\" a \""},
            {"abc", "$b"}, {"", "{}"}, {"+5", "\"+5\""}, {"7", "+007"}, {"7", "007 + 0"}, {"7", "max(007, 1)"}, {"7", "abs(007)"}, {"1", "007 && 1"}};
        for (String[] sum : sums) {
            is(talk, sum[0], sum[1]);
        }
    }

    private static void absolute() {
        Talk talk = Talk.about("abs wraps.");
        is(talk, LOWEST_TEXT, "abs(" + LOWEST + ")");
        is(talk, HIGHEST, "abs(-" + HIGHEST + ")");
        is(talk, HIGHEST, "abs(" + HIGHEST + ")");
        is(talk, LOWEST_TEXT, "abs(0x8000000000000000)");
    }
}
