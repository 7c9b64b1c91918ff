/** Promises 3 run and 4 thrown: VALUES, STEPS and FAILURES. */
public final class ValueTest {
    public static void main(String[] args) {
        wholes();
        choices();
        members();
        declaredAnew();
        lacking();
        nothing();
        kinds();
        zero();
        counts();
        fields();
        old();
        spent();
        deep();
        order();
        report();
        Check.end();
    }

    private static void wholes() {
        SnippetShell shell = new SnippetShell();
        Check.dueWhole(shell, "1 + 2*3", 7);
        Check.dueWhole(shell, "(1 + 2)*3", 9);
        Check.dueWhole(shell, "20 - 3 - 4", 13);
        Check.dueWhole(shell, "100 / 7 / 2 * 3 % 5", 1);
        Check.dueWhole(shell, "-7 / 2", -3);
        Check.dueWhole(shell, "-7 % 2", -1);
        Check.dueWhole(shell, "7 % -2", 1);
        Check.dueWhole(shell, "2 - -3", 5);
        Check.dueWhole(shell, "--3", 3);
        Check.dueWhole(shell, "1 < 2", 1);
        Check.dueWhole(shell, "2 < 2", 0);
        Check.dueWhole(shell, "1+1 = 2", 1);
        Check.dueWhole(shell, "1 = 2", 0);
        Check.dueWhole(shell, "999999999999999999 * 100", 7766279631452241820L);
        Check.dueWhole(shell, "-9223372036854775 * 1000 - 808", Long.MIN_VALUE);
        Check.dueWhole(shell, "$15 - 1", Long.MAX_VALUE);
        Check.dueWhole(shell, "$15 / -1", Long.MIN_VALUE);
        Check.dueWhole(shell, "$15 % -1", 0);
        Check.dueWhole(shell, "-$15", Long.MIN_VALUE);
        Check.dueWhole(shell, "$1 + $002", 16);
        Check.dueWhole(shell, "000000000000000012", 12);
    }

    private static void choices() {
        SnippetShell shell = Check.with("var a = 0");
        Check.dueWhole(shell, "1 ? 2 : 3", 2);
        Check.dueWhole(shell, "0 ? 2 : 3", 3);
        Check.dueWhole(shell, "-1 ? 2 : 3", 2);
        Check.dueWhole(shell, "0 ? 1 : 0 ? 2 : 3", 3);
        Check.dueWhole(shell, "1 ? 0 ? 4 : 5 : 6", 5);
        Check.dueWhole(shell, "(0 ? 1 : 2) * (1 ? 3 : 4) + (a ? 5 : 6)", 12);
        Check.dueWhole(shell, "a = 0 ? 7 : 1 / a", 7);
        Check.dueWhole(shell, "a < 0 ? nosuch : 8", 8);
        Check.due("STEPS of what is not taken", shell.thrown(4), 5);
    }

    private static void members() {
        SnippetShell shell = Check.with("var x = 100", "def f(x,y) = x*10 + y", "def g(y) = f(y, x) + f(x, y)", "def n() = 7");
        Check.dueWhole(shell, "f(1,2)", 12);
        Check.dueWhole(shell, "f(f(1,2),f(3,4))", 154);
        Check.dueWhole(shell, "g(5)", 150 + 1005);
        Check.dueWhole(shell, "n() * n()", 49);
        Check.dueWhole(shell, "x", 100);
        Check.dueRun(shell, "def x(x) = x < 1 ? 0 : x(x - 1) + x", 0);
        Check.dueWhole(shell, "x(4)", 10);
        Check.dueRun(shell, "x", -201);
    }

    private static void declaredAnew() {
        SnippetShell shell = Check.with("def f(x) = g(x) + v", "var v = 1", "def g(x) = x");
        Check.dueWhole(shell, "f(5)", 6);
        Check.dueRun(shell, "def g(x) = x * 2", 0);
        Check.dueRun(shell, "var v = v + 10", 0);
        Check.dueWhole(shell, "f(5)", 21);
        Check.dueRun(shell, "var v = g(v)", 0);
        Check.dueWhole(shell, "v", 22);
        Check.dueRun(shell, "var g = g(4)", 0);
        Check.dueWhole(shell, "g", 8);
        Check.dueThrown(shell, "f(5)", new int[] {1, 0, 11, 1});
        Check.dueRun(shell, "var v = 1 / 0", -204);
        Check.dueWhole(shell, "v", 22);
        Check.dueRun(shell, "var new = 1 / 0", -204);
        Check.dueRun(shell, "new", -201);
    }

    private static void lacking() {
        SnippetShell shell = Check.with("var a = 1", "def f(x) = x + b", "type t(x)", "def r() = $3");
        Check.dueFailure(shell, "1 + b", 1, 4);
        Check.dueFailure(shell, "1 + f", 1, 4);
        Check.dueFailure(shell, "1 + t", 1, 4);
        Check.dueFailure(shell, "1 + a(2)", 1, 4);
        Check.dueFailure(shell, "nosuch(2)", 1, 0);
        Check.dueFailure(shell, "$1", 1, 0);
        Check.dueFailure(shell, "2 * $0", 1, 4);
        Check.dueThrown(shell, "f(1)", new int[] {1, 1, 15, 1});
        Check.dueThrown(shell, "r()", new int[] {1, 3, 10, 1});
        Check.dueWhole(shell, "11", 11);
        Check.dueWhole(shell, "12", 12);
        Check.dueWhole(shell, "13", 13);
        Check.dueWhole(shell, "r()", 13);
    }

    private static void nothing() {
        SnippetShell shell = Check.with("var n", "type t(x)", "var a = t(n)", "def f(x) = x", "def h(x) = 1");
        Check.dueFailure(shell, "-n", 2, 0);
        Check.dueFailure(shell, "n.x", 2, 1);
        Check.dueFailure(shell, "n ? 1 : 2", 2, 2);
        for (String sign : "+-*/%<=".split("")) {
            Check.dueFailure(shell, "n " + sign + " 1", 2, 2);
            Check.dueFailure(shell, "1 " + sign + " n", 2, 2);
            Check.dueFailure(shell, "a " + sign + " n", 2, 2);
            Check.dueFailure(shell, "n " + sign + " a", 2, 2);
        }
        Check.dueFailure(shell, "a.x.x", 2, 3);
        Check.dueFailure(shell, "f(n) = f(n)", 2, 5);
        Check.dueWhole(shell, "h(n)", 1);
        Check.dueRun(shell, "1 ? n : 1", 2);
        Check.due("kind(2)", shell.kind(2), 0);
        Check.dueRun(shell, "var b = n", 0);
        Check.dueRun(shell, "$2", 3);
        Check.due("kind(3)", shell.kind(3), 0);
    }

    private static void kinds() {
        SnippetShell shell = Check.with("type t(x)", "var a = t(1)", "var b = t(1)", "var c = a");
        Check.dueFailure(shell, "-a", 3, 0);
        Check.dueFailure(shell, "a ? 1 : 2", 3, 2);
        Check.dueFailure(shell, "1.x", 3, 1);
        Check.dueFailure(shell, "a.x.x", 3, 3);
        for (String sign : "+-*/%<=".split("")) {
            Check.dueFailure(shell, "a " + sign + " 1", 3, 2);
            Check.dueFailure(shell, "0 " + sign + " a", 3, 2);
            if (!sign.equals("=")) {
                Check.dueFailure(shell, "a " + sign + " a", 3, 2);
            }
        }
        Check.dueFailure(shell, "a / 0", 3, 2);
        Check.dueWhole(shell, "a = a", 1);
        Check.dueWhole(shell, "a = b", 0);
        Check.dueWhole(shell, "a = c", 1);
        Check.dueWhole(shell, "t(a).x = a", 1);
        Check.dueWhole(shell, "t(1) = t(1)", 0);
    }

    private static void zero() {
        SnippetShell shell = Check.with("def d(x,y) = x / y");
        Check.dueFailure(shell, "1 / 0", 4, 2);
        Check.dueFailure(shell, "5 + 1 % (2 - 2)", 4, 6);
        Check.dueThrown(shell, "1 + d(1, 0)", new int[] {4, 0, 15, 1});
        Check.dueWhole(shell, "0 / 1", 0);
        Check.dueWhole(shell, "0 % 1", 0);
    }

    private static void counts() {
        SnippetShell shell = Check.with("def z() = 1", "def f(x,y) = x", "type t(x,y,z)");
        Check.dueFailure(shell, "z(1)", 5, 0);
        Check.dueFailure(shell, "f()", 5, 0);
        Check.dueFailure(shell, "f(1)", 5, 0);
        Check.dueFailure(shell, "f(1,2,3)", 5, 0);
        Check.dueFailure(shell, "1 + t(1,2)", 5, 4);
        Check.dueFailure(shell, "t()", 5, 0);
    }

    private static void fields() {
        SnippetShell shell = Check.with("type t(x,y)", "var a = t(3, t(4, 5))");
        Check.dueWhole(shell, "a.x", 3);
        Check.dueWhole(shell, "a.y.x * 10 + a.y.y", 45);
        Check.dueWhole(shell, "-a.y.x", -4);
        Check.dueWhole(shell, "(a.y).y", 5);
        Check.dueWhole(shell, "t(1,2).y", 2);
        Check.dueFailure(shell, "a.z", 6, 1);
        Check.dueFailure(shell, "a.y .t", 6, 4);
    }

    private static void old() {
        SnippetShell shell = Check.with("type t(x)", "var a = t(1)", "type t(x)", "var b = t(a)");
        Check.dueFailure(shell, "a.x", 7, 1);
        Check.dueFailure(shell, "a.nosuch", 7, 1);
        Check.dueFailure(shell, "b.x.x", 7, 3);
        Check.dueWhole(shell, "a = b.x", 1);
        Check.dueRun(shell, "var t", 0);
        Check.dueFailure(shell, "b.x", 7, 1);
        Check.dueRun(shell, "def t(x) = x", 0);
        Check.dueFailure(shell, "b.x", 7, 1);
        Check.dueRun(shell, "type t(x)", 0);
        Check.dueFailure(shell, "b.x", 7, 1);
        Check.dueWhole(shell, "t(8).x", 8);
    }

    private static void spent() {
        SnippetShell shell = Check.with("def m(x) = x < 1 ? 0 : m(x-1) + m(x-1)");
        Check.dueRun(shell, "m(8)", -208);
        Check.due("thrown(1)", shell.thrown(1), 0);
        Check.due("thrown(4)", shell.thrown(4), 401);
        Check.due("count(6)", shell.count(6), 401);
        shell = Check.with("def e(x) = x+x+x+x", "def c(x) = e(x)+e(x)+e(x)+e(x)+e(x)");
        // e(x) is 9 STEPS with its call; c(1) is five of them, four + and its own call: 51
        Check.dueWhole(shell, "c(1)", 20);
        Check.due("STEPS of c(1)", shell.thrown(4), 51);
        String text = "c(1)+c(1)+c(1)+c(1)+c(1)+c(1)+c(1)+e(1)+e(1)+e(1)";
        Check.dueWhole(shell, text, 152);
        Check.due("STEPS of the long text", shell.thrown(4), 393);
        Check.dueWhole(shell, "---" + text + "*1*1", 112);
        Check.due("400 STEPS", shell.thrown(4), 400);
        Check.dueFailure(shell, "----" + text + "*1*1", 8, 56);
        Check.due("401 STEPS", shell.thrown(4), 401);
        Check.dueFailure(shell, "----" + text + "*1/0", 8, 56);
        Check.dueFailure(shell, "---" + text + "*1/0", 4, 54);
    }

    private static void deep() {
        SnippetShell shell = Check.with("type t(x)", "def f(x) = x < 1 ? t(x) : f(x - 1)");
        Check.dueRun(shell, "f(19).x", 1);
        Check.dueThrown(shell, "f(20).x", new int[] {9, 1, 26, 20});
        Check.dueThrown(shell, "1 + f(f(20))", new int[] {9, 1, 26, 20});
        // the EXPRS of a call are not within what is called
        Check.dueRun(shell, "def g(x) = x", 0);
        Check.dueWhole(shell, "g(g(g(g(g(g(g(g(g(g(g(g(1))))))))))))", 1);
        Check.dueRun(shell, "def h(x) = x < 1 ? t(x) : h(g(g(x)) - 1)", 0);
        Check.dueRun(shell, "h(19).x", 3);
        // 9 comes ahead of the parts of its call
        Check.dueRun(shell, "def k(x) = x < 1 ? k(1/0) : k(x - 1)", 0);
        Check.dueThrown(shell, "k(19)", new int[] {9, 7, 19, 20});
        Check.dueThrown(shell, "k(18)", new int[] {4, 7, 22, 19});
    }

    private static void order() {
        SnippetShell shell = Check.with("var n", "def f(x) = x", "type t(x)", "var a = t(1)");
        // the parts from left to right, then itself
        Check.dueFailure(shell, "n + nosuch", 1, 4);
        Check.dueFailure(shell, "1/0 + nosuch", 4, 1);
        Check.dueFailure(shell, "nosuch + 1/0", 1, 0);
        Check.dueFailure(shell, "f(1/0, nosuch)", 5, 0);
        Check.dueFailure(shell, "g(1/0)", 1, 0);
        Check.dueFailure(shell, "f(1/0)", 4, 3);
        Check.dueFailure(shell, "t(1/0)", 4, 3);
        Check.dueFailure(shell, "a + n", 2, 2);
        Check.dueFailure(shell, "(1 + a) + n", 3, 3);
        Check.dueFailure(shell, "n ? nosuch : 1/0", 2, 2);
        Check.dueFailure(shell, "(n ? 1 : 2) + 1/0", 2, 3);
        Check.dueThrown(shell, "f(a) + f(1) + f(n)", new int[] {3, 4, 5, 0, 8});
    }

    private static void report() {
        SnippetShell shell = Check.with("var a = 5");
        Check.due("thrown(0) of no FAILURE", shell.thrown(0), 0);
        Check.due("thrown(4)", shell.thrown(4), 1);
        Check.dueThrown(shell, " a / (a - 5)", new int[] {4, 1, 3, 0, 5});
        Check.dueRun(shell, "def f(x) = x % 0", 0);
        for (int what = 0; what < 5; what++) {
            Check.due("thrown(" + what + ") of def", shell.thrown(what), 0);
        }
        Check.dueThrown(shell, "1 + f(a)", new int[] {4, 1, 13, 1, 7});
        Check.dueRun(shell, "1 +", -23);
        for (int what = 0; what < 5; what++) {
            Check.due("thrown(" + what + ") of a FAULT", shell.thrown(what), 0);
        }
        Check.due("thrown(-1)", shell.thrown(-1), SnippetShell.OUTSIDE);
        Check.due("thrown(5)", shell.thrown(5), SnippetShell.OUTSIDE);
        Check.due("thrown(min)", shell.thrown(Integer.MIN_VALUE), SnippetShell.OUTSIDE);
    }
}
