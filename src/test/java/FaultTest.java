/** Promise 3 run: the FAULTS of texts and their places. */
public final class FaultTest {
    public static void main(String[] args) {
        ends();
        tokens();
        declarations();
        expressions();
        calls();
        open();
        sixtyTokens();
        firstByPlace();
        nothingIsDone();
        Check.end();
    }

    private static void ends() {
        Check.dueFault("", 0);
        Check.dueFault("   ", 3);
        Check.dueFault("1 +  ", 5);
        Check.dueFault("var", 3);
        Check.dueFault("def f(x) =", 10);
        Check.dueFault("1 ? 2 : ", 8);
        Check.dueFault("f(1", 3);
        Check.dueFault("a.", 2);
    }

    private static void tokens() {
        Check.dueRun(new SnippetShell(), "123456789012345678", 1);
        Check.dueFault(" 1234567890123456789", 1);
        Check.dueRun(new SnippetShell(), "var abcdefgh", 0);
        Check.dueFault("var abcdefghi", 4);
        Check.dueFault("variables", 0);
        Check.dueFault("1 + $", 4);
        Check.dueFault("1 + $ 1", 4);
        Check.dueFault("$1234", 0);
        Check.dueRun(new SnippetShell(), "$123", -201);
        Check.dueFault("$1 2", 3);
        Check.dueFault("1a", 1);
        Check.dueFault("a1", 1);
        Check.dueFault("$1a", 2);
        for (String sign : "!\"#&';>@A[\\]^_`{|}~".split("")) {
            Check.dueFault("1 " + sign, 2);
            Check.dueFault(sign, 0);
        }
        Check.dueRun(new SnippetShell(), "  1  +2   ", 1);
    }

    private static void declarations() {
        Check.dueFault("var 1", 4);
        Check.dueFault("var var", 4);
        Check.dueFault("var def", 4);
        Check.dueFault("var a b", 6);
        Check.dueFault("var a = ", 8);
        Check.dueFault("var a = type", 8);
        Check.dueFault("var a(x) = 1", 5);
        Check.dueFault("vara = 1 = 2", 9);
        Check.dueRun(new SnippetShell(), "var a = 1 = 2", 0);
        Check.dueFault("var a = 1 = 2 = 3", 14);
        Check.dueFault("def f = 1", 6);
        Check.dueFault("def f() 1", 8);
        Check.dueFault("def f(1) = 1", 6);
        Check.dueFault("def f(x y) = 1", 8);
        Check.dueFault("def f(x,) = 1", 8);
        Check.dueFault("def f(,x) = 1", 6);
        Check.dueFault("def f(x,y,x) = 1", 10);
        Check.dueFault("def f(x,y,z,w) = 1", 11);
        Check.dueFault("def f(x,y,z", 11);
        Check.dueFault("def f(var) = 1", 6);
        Check.dueFault("def type() = 1", 4);
        Check.dueRun(new SnippetShell(), "def f(f,x,y) = f", 0);
        Check.dueRun(new SnippetShell(), "def f() = 1", 0);
        Check.dueFault("type t", 6);
        Check.dueFault("type t()", 7);
        Check.dueFault("type t(x,x)", 9);
        Check.dueFault("type t(x,y,z,w)", 12);
        Check.dueFault("type t(x) = 1", 10);
        Check.dueRun(new SnippetShell(), "type t(t)", 0);
        Check.dueFault("1 var", 2);
    }

    private static void expressions() {
        Check.dueFault("1 2", 2);
        Check.dueFault("* 1", 0);
        Check.dueFault("+1", 0);
        Check.dueFault("1 - * 2", 4);
        Check.dueRun(new SnippetShell(), "1 - - 2", 1);
        Check.dueFault("1 < 2 < 3", 6);
        Check.dueFault("1 < 2 = 3", 6);
        Check.dueRun(new SnippetShell(), "(1 < 2) < 3", 1);
        Check.dueFault("1 ? 2", 5);
        Check.dueFault("1 ? 2 3", 6);
        Check.dueFault("1 : 2", 2);
        Check.dueFault("1 ? : 2", 4);
        Check.dueFault("()", 1);
        Check.dueFault("(1", 2);
        Check.dueFault("1)", 1);
        Check.dueFault("(1, 2)", 2);
        Check.dueFault("a.1", 2);
        Check.dueFault("a.var", 2);
        Check.dueFault("a.b(1)", 3);
        Check.dueFault("a..b", 2);
        Check.dueFault(".a", 0);
    }

    private static void calls() {
        Check.dueFault("f(1)(2)", 4);
        Check.dueFault("$1(2)", 2);
        Check.dueFault("1(2)", 1);
        Check.dueFault("f(,)", 2);
        Check.dueFault("f(1,)", 4);
        Check.dueFault("f(1 2)", 4);
        Check.dueFault("f(1,2,3,4)", 7);
        Check.dueRun(new SnippetShell(), "f(1,2,3)", -201);
        Check.dueRun(new SnippetShell(), "f ( )", -201);
        Check.dueFault("f(1,2,3", 7);
    }

    private static void open() {
        Check.dueRun(new SnippetShell(), "(".repeat(12) + "1" + ")".repeat(12), 1);
        Check.dueFault("(".repeat(13) + "1" + ")".repeat(13), 12);
        Check.dueRun(new SnippetShell(), "-".repeat(12) + "1", 1);
        Check.dueFault("-".repeat(13) + "1", 12);
        Check.dueRun(new SnippetShell(), "1?2:".repeat(12) + "3", 1);
        Check.dueFault("1?2:".repeat(13) + "3", 49);
        Check.dueRun(new SnippetShell(), "1?".repeat(12) + "1" + ":2".repeat(12), 1);
        Check.dueFault("1?".repeat(13) + "1" + ":2".repeat(13), 25);
        Check.dueRun(new SnippetShell(), "f(".repeat(12) + "1" + ")".repeat(12), -201);
        Check.dueFault("f(".repeat(13) + "1" + ")".repeat(13), 25);
        Check.dueFault("-(-(-(-(1?-(-(-(1?2:3)))", 13);
        Check.dueFault("-(-(-(-(-(-(-1))))))", 12);
        Check.dueRun(new SnippetShell(), "-(-(-(-(-(-(1))))))", 1);
        // what was closed is not open any more
        Check.dueRun(new SnippetShell(), "(1)+(1)+(1)+(1)+(1)+(1)+(1)+(1)+(1)+(1)+(1)+(1)+(1)+(1)", 1);
        Check.dueRun(new SnippetShell(), "-1+-1+-1+-1+-1+-1+-1+-1+-1+-1+-1+-1+-1+-1", 1);
        Check.dueRun(new SnippetShell(), "((((((((((((1))))))))))))?2:3", 1);
        Check.dueRun(new SnippetShell(), "------------1?2:3", 1);
        Check.dueRun(new SnippetShell(), "(1?2:3)+((((((((((((1))))))))))))", 1);
        Check.dueRun(new SnippetShell(), "f()" + "+f()".repeat(14), -201);
        Check.dueRun(new SnippetShell(), "def f(x)=((((((((((((x))))))))))))", 0);
        // - between two PRODS does not count, and ? is open behind its : too
        Check.dueRun(new SnippetShell(), "((((((((((((1-1-1))))))))))))", 1);
        Check.dueFault("1?2:((((((((((((1))))))))))))", 15);
    }

    private static void sixtyTokens() {
        Check.dueRun(new SnippetShell(), "-1" + "+1".repeat(29), 1);
        Check.dueFault("1" + "+1".repeat(30), 60);
        Check.dueFault("1" + " +1".repeat(30), 90);
        Check.dueFault("1" + "+1".repeat(29) + "+", 60);
        Check.dueFault("-1" + "+1".repeat(29) + "  $", 62);
        Check.dueRun(new SnippetShell(), "-1" + "+1".repeat(29) + "     ", 1);
    }

    private static void firstByPlace() {
        Check.dueFault("1 2 @", 2);
        Check.dueFault("@ 1 2", 0);
        Check.dueFault("type t(x,x,abcdefghijk)", 9);
        Check.dueFault("type t(abcdefghijk,x,x)", 7);
        Check.dueFault("(((((((((((((@", 12);
        Check.dueFault("((((((((((((@(", 12);
        Check.dueFault("f(1,2,3,$)", 7);
        Check.dueFault("1 +" + "+1".repeat(40), 3);
    }

    private static void nothingIsDone() {
        SnippetShell shell = new SnippetShell();
        Check.dueRun(shell, "var a = 1 2", -30);
        Check.due("count(0)", shell.count(0), 0);
        Check.due("count(2)", shell.count(2), 0);
        Check.due("count(3)", shell.count(3), 0);
        Check.due("count(6)", shell.count(6), 0);
        Check.due("run() of the empty text", shell.run(), -20);
    }
}
