/** Promises 5 kind, 6 whole, 7 thing. */
public final class ResultTest {
    public static void main(String[] args) {
        SnippetShell shell = new SnippetShell();
        Check.dueRun(shell, "type t(x,y,z)", 0);
        Check.dueRun(shell, "type p(q)", 0);
        Check.dueRun(shell, "var n", 0);
        Check.dueRun(shell, "-12", 1);
        Check.dueRun(shell, "n", 2);
        Check.dueRun(shell, "p(4)", 3);
        Check.dueRun(shell, "t($3, n, 0)", 4);
        kind(shell);
        whole(shell);
        thing(shell);
        oldThing(shell);
        Check.end();
    }

    private static void kind(SnippetShell shell) {
        Check.due("kind(1)", shell.kind(1), 1);
        Check.due("kind(2)", shell.kind(2), 0);
        Check.due("kind(3)", shell.kind(3), 2);
        for (int result : new int[] {0, 5, -1, Integer.MIN_VALUE, Integer.MAX_VALUE}) {
            Check.due("kind(" + result + ")", shell.kind(result), SnippetShell.UNKNOWN);
        }
    }

    private static void whole(SnippetShell shell) {
        Check.due("whole(1)", Check.wholeOrThrown(shell, 1), -12);
        Check.due("whole of NOTHING", Check.wholeOrThrown(shell, 2), Check.NULL_POINTER);
        Check.due("whole of a THING", Check.wholeOrThrown(shell, 3), Check.CLASS_CAST);
        for (int result : new int[] {0, 5, -1, Integer.MIN_VALUE, Integer.MAX_VALUE}) {
            Check.due("whole(" + result + ")", Check.wholeOrThrown(shell, result), Check.NULL_POINTER);
        }
    }

    private static void thing(SnippetShell shell) {
        dueThing(shell, 3, new int[] {shell.name('p'), 1, 1, 0, 1, SnippetShell.NONE, SnippetShell.NONE});
        dueThing(shell, 4, new int[] {shell.name('t'), 1, 3, 0, 2, 0, 1});
        Check.due("thing(3, 7)", shell.thing(3, 7), SnippetShell.OUTSIDE);
        Check.due("thing(3, -1)", shell.thing(3, -1), SnippetShell.OUTSIDE);
        Check.due("thing(3, max)", shell.thing(3, Integer.MAX_VALUE), SnippetShell.OUTSIDE);
        for (int result : new int[] {0, 1, 2, 5, -1, Integer.MIN_VALUE, Integer.MAX_VALUE}) {
            Check.due("thing(" + result + ", 0)", shell.thing(result, 0), SnippetShell.UNKNOWN);
            Check.due("thing(" + result + ", 7)", shell.thing(result, 7), SnippetShell.UNKNOWN);
        }
    }

    private static void oldThing(SnippetShell shell) {
        int p = shell.name('p');
        Check.dueRun(shell, "type p(a,b)", 0);
        dueThing(shell, 3, new int[] {p, 1, 1, 1, 1, SnippetShell.NONE, SnippetShell.NONE});
        Check.dueRun(shell, "p(1,2)", 5);
        dueThing(shell, 5, new int[] {p, 2, 2, 0, 1, 1, SnippetShell.NONE});
        Check.dueRun(shell, "def p() = 1", 0);
        dueThing(shell, 5, new int[] {p, 2, 2, 1, 1, 1, SnippetShell.NONE});
        Check.dueRun(shell, "type p(a,b)", 0);
        dueThing(shell, 5, new int[] {p, 2, 2, 1, 1, 1, SnippetShell.NONE});
        Check.dueRun(shell, "p(3,4)", 6);
        dueThing(shell, 6, new int[] {p, 3, 2, 0, 1, 1, SnippetShell.NONE});
        Check.due("the other TYPE is as it was", shell.thing(4, 3), 0);
    }

    private static void dueThing(SnippetShell shell, int result, int[] want) {
        for (int what = 0; what < want.length; what++) {
            Check.due("thing(" + result + ", " + what + ")", shell.thing(result, what), want[what]);
        }
    }
}
