/** Promises 13 state, 14 text, 15 user. */
public final class SnippetTest {
    public static void main(String[] args) {
        states();
        whatIsCalled();
        texts();
        users();
        Check.end();
    }

    private static void dueStates(SnippetShell shell, int... want) {
        int waiting = 0;
        for (int k = 0; k < want.length; k++) {
            Check.due("state(" + k + ")", shell.state(k), want[k]);
            waiting += want[k] == 1 ? 1 : 0;
        }
        Check.due("state behind the last", shell.state(want.length), SnippetShell.UNKNOWN);
        Check.due("count(4)", shell.count(4), waiting);
    }

    private static void states() {
        SnippetShell shell = new SnippetShell();
        Check.due("state(-1)", shell.state(-1), SnippetShell.UNKNOWN);
        Check.dueRun(shell, "def h(x) = k(x) + q", 0);
        dueStates(shell, 1);
        Check.dueRun(shell, "def k(x) = x.nosuch + $9", 0);
        dueStates(shell, 1, 0);
        Check.dueRun(shell, "var q", 0);
        dueStates(shell, 0, 0, 0);
        Check.dueRun(shell, "q", 1);
        dueStates(shell, 0, 0, 0, 0);
        Check.dueRun(shell, "var k", 0);
        dueStates(shell, 1, 2, 0, 0, 0);
        Check.dueRun(shell, "type k(x)", 0);
        dueStates(shell, 0, 2, 0, 0, 2, 0);
        Check.dueRun(shell, "def q() = 1", 0);
        dueStates(shell, 1, 2, 2, 0, 2, 0, 0);
        Check.dueRun(shell, "def h(x) = nosuch", 0);
        dueStates(shell, 2, 2, 2, 0, 2, 0, 0, 1);
        Check.dueRun(shell, "var nosuch = 1/0", -204);
        dueStates(shell, 2, 2, 2, 0, 2, 0, 0, 1);
        Check.dueRun(shell, "var h = q()", 0);
        dueStates(shell, 2, 2, 2, 0, 2, 0, 0, 2, 0);
        Check.due("state(max)", shell.state(Integer.MAX_VALUE), SnippetShell.UNKNOWN);
        Check.due("state(min)", shell.state(Integer.MIN_VALUE), SnippetShell.UNKNOWN);
    }

    private static void whatIsCalled() {
        SnippetShell shell = new SnippetShell();
        // what is called is never an ARGUMENT
        Check.dueRun(shell, "def f(x) = x(x)", 0);
        dueStates(shell, 1);
        Check.dueRun(shell, "def x(y) = y + 1", 0);
        dueStates(shell, 0, 0);
        Check.dueWhole(shell, "f(4)", 5);
        // a MEMBER that calls itself does not wait for itself
        Check.dueRun(shell, "def g() = g()", 0);
        dueStates(shell, 0, 0, 0, 0);
        // a VARIABLE's EXPR was worked out, so it waits for nothing
        Check.dueRun(shell, "var v = f(1)", 0);
        Check.dueRun(shell, "var f", 0);
        dueStates(shell, 2, 0, 0, 0, 0, 0);
        Check.due("what is not taken waits too", Check.run(shell, "def w() = 1 ? 1 : nosuch"), 0);
        dueStates(shell, 2, 0, 0, 0, 0, 0, 1);
    }

    private static void texts() {
        SnippetShell shell = new SnippetShell();
        String[] kept = {" var  a = 1 ", "a", "def f(x,y,z) = x*y/z + 1 < 2 ? $1 : -(a)", "type t(a)"};
        for (String text : kept) {
            Check.due("run of '" + text + "'", Check.run(shell, text) >= 0 ? 1 : 0, 1);
            Check.run(shell, "1 +");
            Check.run(shell, "1 / 0");
        }
        for (int k = 0; k < kept.length; k++) {
            for (int i = 0; i < kept[k].length(); i++) {
                Check.due("text(" + k + ", " + i + ")", Check.textOrThrown(shell, k, i), kept[k].charAt(i));
            }
            for (int i : new int[] {-1, kept[k].length(), 120, Integer.MIN_VALUE, Integer.MAX_VALUE}) {
                Check.due("text(" + k + ", " + i + ")", Check.textOrThrown(shell, k, i), Check.OUT_OF_BOUNDS);
            }
        }
        for (int k : new int[] {-1, kept.length, 40, Integer.MIN_VALUE, Integer.MAX_VALUE}) {
            Check.due("text(" + k + ", 0)", Check.textOrThrown(shell, k, 0), Check.OUT_OF_BOUNDS);
        }
    }

    private static void dueUsers(SnippetShell shell, String name, int... want) {
        int number = shell.name(Check.word(name));
        for (int i = 0; i < want.length; i++) {
            Check.due("user of " + name + ", " + i, shell.user(number, i), want[i]);
        }
        for (int i : new int[] {want.length, -1, Integer.MIN_VALUE, Integer.MAX_VALUE}) {
            Check.due("user of " + name + ", " + i, shell.user(number, i), SnippetShell.NONE);
        }
    }

    private static void users() {
        SnippetShell shell = new SnippetShell();
        Check.dueRun(shell, "def f() = a", 0);
        dueUsers(shell, "a", 0);
        dueUsers(shell, "f");
        shell.reset();
        Check.dueRun(shell, "var a = 1", 0);
        Check.dueRun(shell, "def f(x) = a + a + x.b", 0);
        Check.dueRun(shell, "a + a", 1);
        Check.dueRun(shell, "def g(a) = a + f(a)", 0);
        Check.dueRun(shell, "def h(x) = a(x) + f(a) + h(1)", 0);
        Check.dueRun(shell, "type t(a)", 0);
        Check.dueRun(shell, "var b = f(t(1)) ", -206);
        dueUsers(shell, "a", 1, 4);
        dueUsers(shell, "f", 3, 4);
        dueUsers(shell, "h", 4);
        dueUsers(shell, "x");
        dueUsers(shell, "b");
        dueUsers(shell, "t");
        Check.dueRun(shell, "def f(a) = a", 0);
        dueUsers(shell, "a", 4);
        dueUsers(shell, "f", 3, 4);
        Check.dueRun(shell, "var h = 1", 0);
        dueUsers(shell, "a");
        dueUsers(shell, "f", 3);
        for (int name : new int[] {-1, shell.count(2), Integer.MIN_VALUE, Integer.MAX_VALUE}) {
            Check.due("user(" + name + ", 0)", shell.user(name, 0), SnippetShell.UNKNOWN);
            Check.due("user(" + name + ", -1)", shell.user(name, -1), SnippetShell.UNKNOWN);
        }
    }
}
