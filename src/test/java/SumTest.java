/** Expressions. */
public final class SumTest {
    public static void main(String[] args) {
        operators();
        comparisons();
        laziness();
        operands();
        unreadable();
        depth();
        order();
        Talk.finish();
    }

    private static void is(String result, String expression) {
        renew().fine(result, "set a 3; set b abc; set c(1) 5; expr {" + expression + "}");
    }

    private static void fails(String message, String expression) {
        renew().fails(message, "set a 3; set b abc; set c(1) 5; expr {" + expression + "}");
    }

    private static void bad(String expression) {
        renew().fails("bad expression: " + expression, "set a 3; expr {" + expression + "}");
    }

    /** A new object for each, because one is used for 512 calls at most. */
    private static Talk renew() {
        return new Talk();
    }

    private static void operators() {
        is("7", "1 + 2 * 3");
        is("9", "(1 + 2) * 3");
        is("-4", "1 - 2 - 3");
        is("2", "20 / 5 / 2");
        is("-4", "-7 / 2");
        is("1", "-7 % 2");
        is("-1", "7 % -2");
        is("-9223372036854775808", "-9223372036854775807 - 1");
        is("-9223372036854775808", "9223372036854775807 + 1");
        is("-9223372036854775808", "(-9223372036854775807 - 1) / -1");
        is("0", "(-9223372036854775807 - 1) % -1");
        is("-2", "9223372036854775807 * 2");
        is("5", "1 | 2 ^ 6 & 6");
        is("1", "5 & 3");
        is("6", "5 ^ 3");
        is("7", "5 | 3");
        is("8", "1 << 3");
        is("-9223372036854775808", "1 << 63");
        is("0", "1 << 64");
        is("-2", "-8 >> 2");
        is("0", "8 >> 64");
        is("-1", "-8 >> 99999");
        is("0", "7 >> 63");
        is("6", "2*3");
        is("3", "7/2");
        is("1", "7%2");
        is("5", "2+3");
        is("-1", "2-3");
        is("8", "1<<3");
        is("1", "8>>3");
        is("7", "3|6");
        is("5", "3^6");
        is("2", "3&6");
        is("1", "1||0");
        is("0", "1&&0");
        is("2", "2*3%4");
        is("1", "1|1^1");
        is("2", "3^1&1");
        is("1", "1&2==2");
        is("0", "2==1<3");
        is("1", "1<1<<1");
        is("16", "1<<2+2");
        is("7", "1+2*3");
        is("1", "1||0&&0");
        is("1", "0&&0|1||1");
        is("-6", "-2*3");
        is("6", "7-2+1");
        is("12", "8/2*3");
        is("4", "12%5*2");
        is("8", "8>>1<<1");
        is("4", "1<<3>>1");
        is("1", "1<2>=1");
        is("0", "2<=3>1");
        is("1", "2>1<=1");
        is("1", "5==5!=0");
        is("0", "2!=1==2");
        is("1", "\"a\" eq \"a\" ne \"b\"");
        is("1", "\"a\" ne \"b\" eq 1");
        is("0", "0&&1|1");
        is("1", "1<<0");
        is("8", "8>>0");
        is("5", "5/1");
        is("0", "5%1");
        is("2", "abs(1 ? -2 : 3)");
        is("3", "max(1 ? 2 : 9, 3)");
        is("3", "abs(min(-3, -2))");
        is("2", "[eval {set x 1}] + 1");
        is("0", "abs(0)");
        is("4", "min(4, 4)");
        is("1", "!0+0");
        is("0", "!(0+1)");
        fails("negative shift", "1 << -1");
        fails("negative shift", "1 >> -1");
        fails("divided by zero", "1 / 0");
        fails("divided by zero", "1 % 0");
        is("-3", "-$a");
        is("3", "+0x3");
        is("1", "!0");
        is("0", "!7");
        is("-1", "~0");
        is("5", "- -5");
        is("1", "!!7");
        is("6", "~-+7");
        is("9223372036854775807", "-(-9223372036854775807)");
        is("-9223372036854775808", "-(-9223372036854775807 - 1)");
        is("4", "abs(-4)");
        is("4", "abs (4)");
        is("-9223372036854775808", "abs(-9223372036854775807 - 1)");
        is("2", "min(2,3)");
        is("3", "max ( 2 ,\n3 )");
        is("7", "max(007, 6)");
        is("-5", "min(-5, abs(-4))");
        fails("not an integer: abc", "min($b, \"x\")");
        fails("not an integer: x", "max(1, \"x\")");
        fails("not an integer: abc", "abs($b)");
        fails("not an integer: abc", "-$b");
        fails("not an integer: ", "1 + \"\"");
        fails("not an integer: abc", "$b + \"x\"");
    }

    private static void comparisons() {
        is("1", "1 < 2");
        is("1", "10 > 9");
        is("1", "0x10 == 16");
        is("0", "0x10 eq 16");
        is("1", "0x10 ne 16");
        is("1", "\"abc\" < \"abd\"");
        is("1", "\"a\" < \"ab\"");
        is("0", "\"10\" < \"9\"");
        is("1", "\"10\" < \"9x\"");
        is("1", "2 <= 2");
        is("1", "2 >= 2");
        is("1", "2 != 3");
        is("1", "3 != 2");
        is("0", "3!=3");
        is("1", "3==3");
        is("0", "3==2");
        is("1", "\"b\"ne\"a\"");
        is("0", "\"b\"ne\"b\"");
        is("1", "1<=2");
        is("0", "3<=2");
        is("1", "3>=2");
        is("0", "1>=2");
        is("0", "2<2");
        is("0", "2>2");
        is("1", "{a b} eq \"a b\"");
        is("1", "1 < 2 == 1");
        is("1", "2 == 1 + 1");
        is("1", "1 << 1 + 1 > 3");
        is("1", "{}eq\"\"");
        is("0", "1 eq 2 || 0");
        is("1", "3 > 2 > 0");
    }

    private static void laziness() {
        is("1", "1 || [error x]");
        is("0", "0 && [error x]");
        is("1", "0 || 5");
        is("1", "3 && 5");
        is("1", "1 || 0 && [error x]");
        is("0", "0 && [error x] || 0");
        is("1", "0 && [error x] + 1 == 2 || 1");
        is("1", "0 && ([error x] || 1) || 1");
        is("0", "0 && 1 && [error x]");
        is("a", "1 ? \"a\" : [error x]");
        is("b", "0 ? [error x] : \"b\"");
        is("c", "0 ? 1 : 0 ? 2 : \"c\"");
        is("d", "1 ? 0 ? 1 : \"d\" : 2");
        is("2", "1 ? 2 : 3 ? 4 : 5");
        is("5", "0 || 0 ? 4 : 5");
        is("3", "1 ? 1 + 2 : 5 + 6");
        is("11", "0 ? 1 + 2 : 5 + 6");
        is("6", "(1 ? 2 : 3) * 3");
        is("1", "1 || $nosuch");
        fails("no such variable: nosuch", "0 || $nosuch");
        fails("not an integer: x", "\"x\" && 0");
        fails("not an integer: x", "1 && \"x\"");
        fails("not an integer: x", "0 || \"x\"");
        is("1", "1 || \"x\"");
        fails("not an integer: x", "\"x\" ? 1 : 2");
    }

    private static void operands() {
        is("007", "007");
        is("0x1F", " 0x1F\n");
        is("abc", "$b");
        is("abc", "(($b))");
        is("5", "$c(1)");
        is("5", "$c([expr {$a - 2}])");
        is("3", "${a}");
        is("a3", "\"a$a\"");
        is("a$a", "{a$a}");
        is("4", "[set x 4]");
        is("x", "[set y 4; set x x]");
        is("", "[]");
        is("a\tb", "\"a\\tb\"");
        is("a b", "{a\\\n  b}");
        is("7", "3\\\n + 4");
        renew().fine("3", "expr 1 + 2").fails("wrong number of words: expr", "expr").fine("3", "set a {1 + 2}; expr $a");
        renew().fine("$x", "set x 1; set y {$x}; expr {$y}").fine("1", "set x 1; set y {$x}; expr $y");
    }

    private static void unreadable() {
        String[] texts = {"", " ", "1 +", "+", "1 2", "(1", "1)", "()", "12ab", "0x", "99999999999999999999", "1 = 2", "abc", "true", "abs 1",
            "abs()", "abs(1,2)", "min(1)", "max(1,2,3)",
            "1 ? 2", "1 : 2", "1 ? 2 :", "$", "$ a", "1 && ", "1 eq", "1eq1", "1.5", "1,2", "\"a\" \"b\"", "\"a", "[set x", "$a(", "${a", "foo(1)",
                "1 ! 2", "1 <> 2", "&& 1", "#", "axe(1)", "1 ex1", "1 nx1", "1 e 1", "1 n 1", "abt(1)", "mix(1,2)", "mox(1,2)", "man(1,2)", "ab(1)",
                "absx(1)", "min[1,2)", "1 ;", "$a $a"};
        for (String text : texts) {
            if (text.indexOf('{') < 0) {
                bad(text);
            } else {
                renew().fails("bad expression: " + text, "expr \"" + text.replace("$", "\\$") + "\"");
            }
        }
        renew().fails("bad expression: [set x {]", "expr \"\\[set x {]\"; set y 1").tells("", "catch {expr {[puts a] + }}");
        renew().fails("bad expression: {a", "expr \\{a").fails("bad expression: {a}b", "expr {{a}b}");
    }

    private static void depth() {
        is("1", "(".repeat(7) + "1" + ")".repeat(7));
        fails("too deep", "(".repeat(8) + "1" + ")".repeat(8));
        is("1", "abs(".repeat(7) + "1" + ")".repeat(7));
        fails("too deep", "abs(".repeat(8) + "1" + ")".repeat(8));
        is("9", "0?1:".repeat(7) + "9");
        fails("too deep", "0?1:".repeat(8) + "9");
        is("9", "1?".repeat(7) + "9" + ":0".repeat(7));
        fails("too deep", "1?".repeat(8) + "9" + ":0".repeat(8));
        is("1", "[set x ".repeat(7) + "1" + "]".repeat(7));
        fails("too deep", "[set x ".repeat(8) + "1" + "]".repeat(8));
        fails("too deep", "(".repeat(7) + "$c(1)" + ")".repeat(7));
        is("5", "(".repeat(6) + "$c(1)" + ")".repeat(6));
        is("1", "0 || ".repeat(60) + "1");
        is("1", "-".repeat(900) + "1");
        fails("too deep", "(".repeat(8));
        renew().fails("bad expression: 1 +", "catch {expr {" + "(".repeat(8) + "}}; expr {1 +}");
        bad("(".repeat(7));
    }

    private static void order() {
        renew().tells("\3a\n\3b\n", "catch {expr {[puts a] + [puts b]}}").tells("\3a\n\3b\n", "catch {expr {min([puts a], [puts b])}}");
        renew().tells("\3a\n", "catch {expr {[error [puts a]] + [puts b]}}").tells("\3a\n", "catch {expr {-[puts a] + [puts b]}}");
        renew().gives(0, "x", "expr {1 + [return x]}; puts a").fails("boo", "expr {1 + [error boo]}");
        renew().fine("0", "set i 0; while {$i < 4} {expr {[break]}; incr i}; set i");
    }
}
