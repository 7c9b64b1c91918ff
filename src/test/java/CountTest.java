/** Promises 3 run (FULL) and 16 count. */
public final class CountTest {
    public static void main(String[] args) {
        counts();
        fortySnippets();
        fortyNames();
        manyThings();
        Check.end();
    }

    private static void dueCounts(SnippetShell shell, int... want) {
        for (int what = 0; what < want.length; what++) {
            Check.due("count(" + what + ")", shell.count(what), want[what]);
        }
    }

    private static void counts() {
        SnippetShell shell = new SnippetShell();
        Check.dueRun(shell, "type t(x,y)", 0);
        Check.dueRun(shell, "t(1,2)", 1);
        Check.dueRun(shell, "t($1,3)", 2);
        Check.dueRun(shell, "$2.x.y", 3);
        Check.dueRun(shell, "def w(x) = nosuch(x)", 0);
        Check.type(shell, "w(7) + 1");
        dueCounts(shell, 5, 3, 5, 8, 1, 0, 9);
        Check.due("run()", shell.run(), -201);
        dueCounts(shell, 5, 3, 5, 0, 1, 0, 13);
        Check.dueRun(shell, "type t(x)", 0);
        dueCounts(shell, 6, 3, 5, 0, 1, 2, 13);
        Check.dueRun(shell, "t(t($1))", 4);
        Check.dueRun(shell, "var nosuch", 0);
        Check.dueRun(shell, "1 +", -23);
        dueCounts(shell, 8, 4, 5, 0, 1, 2, 16);
        Check.dueRun(shell, "def nosuch(x) = x", 0);
        dueCounts(shell, 9, 4, 5, 0, 0, 2, 16);
        Check.dueRun(shell, "var t", 0);
        dueCounts(shell, 10, 4, 5, 0, 0, 3, 16);
        for (int what : new int[] {-1, 7, Integer.MIN_VALUE, Integer.MAX_VALUE}) {
            Check.due("count(" + what + ")", shell.count(what), SnippetShell.OUTSIDE);
        }
    }

    private static void fortySnippets() {
        SnippetShell shell = new SnippetShell();
        Check.dueRun(shell, "var a = 0", 0);
        for (int k = 1; k < 39; k++) {
            Check.dueRun(shell, "a + " + k, k);
        }
        Check.dueRun(shell, "1 / 0", -204);
        Check.dueRun(shell, "var a = 7", 0);
        Check.due("count(0)", shell.count(0), 40);
        Check.dueRun(shell, "a", SnippetShell.FULL);
        Check.due("the text stays", shell.count(3), 1);
        Check.due("what(0)", shell.what(0), 1);
        Check.due("erase()", shell.erase(), 1);
        Check.dueRun(shell, "1 +", SnippetShell.FULL);
        Check.dueRun(shell, " new name", SnippetShell.FULL);
        Check.due("the text stays", shell.count(3), 12);
        Check.due("thrown(4) is of the run ahead of FULL", shell.thrown(4), 1);
        Check.due("count(2)", shell.count(2), 1);
        Check.due("whole(38)", Check.wholeOrThrown(shell, 38), 38);
        Check.due("state(0)", shell.state(0), 2);
        Check.due("state(39)", shell.state(39), 0);
        Check.due("reset()", shell.reset(), 40);
        for (int k = 1; k <= 40; k++) {
            Check.dueRun(shell, "1000 + " + k, k);
        }
        Check.due("kind(40)", shell.kind(40), 1);
        Check.due("whole(40)", Check.wholeOrThrown(shell, 40), 1040);
        Check.due("kind(41)", shell.kind(41), SnippetShell.UNKNOWN);
        Check.due("text(39, 7)", Check.textOrThrown(shell, 39, 7), '4');
    }

    private static void fortyNames() {
        SnippetShell shell = new SnippetShell();
        String letters = "abcdefghijklmnopqrstuvwxyz";
        for (int k = 0; k < 13; k++) {
            String three = letters.charAt(k) + "," + letters.charAt(k + 13) + "," + letters.charAt(k) + letters.charAt(k);
            Check.dueRun(shell, "f(" + three + ")", -201);
        }
        Check.due("count(2)", shell.count(2), 39);
        Check.dueRun(shell, "f(1, new)/newer", SnippetShell.FULL);
        Check.due("the text stays", shell.count(3), 15);
        Check.due("count(2)", shell.count(2), 39);
        Check.due("name(new)", shell.name(Check.word("new")), SnippetShell.NONE);
        Check.due("thrown(0) is of the run ahead of FULL", shell.thrown(0), 1);
        Check.due("count(6)", shell.count(6), 13);
        Check.due("run() again", shell.run(), SnippetShell.FULL);
        Check.due("signs go on", shell.signs(')'), 16);
        Check.due("a FAULT is told ahead of 41 NAMES", shell.run(), -20 - 15);
        Check.dueRun(shell, "var new = 4", 0);
        Check.due("name(new)", shell.name(Check.word("new")), 39);
        Check.due("letter(39, 2)", shell.letter(39, 2), 'w');
        Check.dueRun(shell, "var a = new + new", 0);
        Check.dueRun(shell, "a.newer", SnippetShell.FULL);
        Check.due("erase()", shell.erase(), 7);
        Check.dueWhole(shell, "a", 8);
    }

    /** Runs that make as many THINGS as they can; those of runs that fail must not come back. */
    private static void manyThings() {
        SnippetShell shell = new SnippetShell();
        Check.dueRun(shell, "type t(x,y)", 0);
        Check.dueRun(shell, "var v = t(0,0)", 0);
        Check.dueRun(shell, "def m(x) = x<1?v:t(m(x-1),t(t(t(t(t(t(x,x),x),x),x),x),x))", 0);
        for (int k = 1; k <= 30; k++) {
            Check.dueRun(shell, "var v = m(17)", 0);
            Check.dueRun(shell, "var w = m(17) + 1", -203);
        }
        Check.dueWhole(shell, "v.x.x.x.y.y", 14);
        Check.dueWhole(shell, "v.x.x.y.x.x.x.x.x.x", 15);
        Check.dueWhole(shell, "v.x.x.x.x.x.x.x.x.x.x.x.x.x.x.x.x.x.y.y", 17);
        Check.dueRun(shell, "m(17).y.x.x", 4);
        Check.due("thing(4, 5)", shell.thing(4, 5), 1);
    }
}
