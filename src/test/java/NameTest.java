/** Promises 8 name, 9 letter, 10 what, 11 by, 12 edition. */
public final class NameTest {
    public static void main(String[] args) {
        numbers();
        wrongNames();
        letters();
        declared();
        Check.end();
    }

    private static void dueName(SnippetShell shell, String letters, int want) {
        Check.due("name(" + letters + ")", shell.name(Check.word(letters)), want);
    }

    private static void numbers() {
        SnippetShell shell = new SnippetShell();
        Check.dueRun(shell, "def fun(a, b) = c + a.d + abcdefgh(e)", 0);
        String[] met = {"fun", "a", "b", "c", "d", "abcdefgh", "e"};
        for (int i = 0; i < met.length; i++) {
            dueName(shell, met[i], i);
        }
        Check.due("count(2)", shell.count(2), 7);
        Check.dueRun(shell, "z + 1 ? q : a", -201);
        dueName(shell, "z", 7);
        dueName(shell, "q", 8);
        Check.dueRun(shell, "y + 1 ? v", -29);
        dueName(shell, "y", SnippetShell.NONE);
        Check.dueRun(shell, "type k(m, z, n)", 0);
        dueName(shell, "k", 9);
        dueName(shell, "m", 10);
        dueName(shell, "n", 11);
        Check.due("count(2)", shell.count(2), 12);
    }

    private static void wrongNames() {
        SnippetShell shell = new SnippetShell();
        Check.dueRun(shell, "var a = 1", 0);
        Check.dueRun(shell, "var ab = 1", 0);
        for (long w : new long[] {0, 'b', 'A', '1', Check.word("abc"), Check.word("var"), Check.word("a "), -1, Long.MIN_VALUE,
            Long.MAX_VALUE, 'a' << 8, Check.word("ab") << 16, 0x610062L, Check.word("abcdefgh")}) {
            Check.due("name(" + w + ")", shell.name(w), SnippetShell.NONE);
        }
    }

    private static void letters() {
        SnippetShell shell = new SnippetShell();
        Check.dueRun(shell, "var abcdefgh", 0);
        Check.dueRun(shell, "var z", 0);
        for (int i = 0; i < 8; i++) {
            Check.due("letter(0, " + i + ")", shell.letter(0, i), 'a' + i);
        }
        Check.due("letter(1, 0)", shell.letter(1, 0), 'z');
        for (int i : new int[] {-1, 8, Integer.MIN_VALUE, Integer.MAX_VALUE}) {
            Check.due("letter(0, " + i + ")", shell.letter(0, i), SnippetShell.NONE);
            Check.due("letter(1, " + i + ")", shell.letter(1, i), SnippetShell.NONE);
        }
        Check.due("letter(1, 1)", shell.letter(1, 1), SnippetShell.NONE);
        for (int name : new int[] {-1, 2, 40, Integer.MIN_VALUE, Integer.MAX_VALUE}) {
            Check.due("letter(" + name + ", 0)", shell.letter(name, 0), SnippetShell.UNKNOWN);
            Check.due("letter(" + name + ", 9)", shell.letter(name, 9), SnippetShell.UNKNOWN);
        }
    }

    private static void dueDeclared(SnippetShell shell, int[] want) {
        Check.due("what(0)", shell.what(0), want[0]);
        Check.due("by(0)", shell.by(0), want[1]);
        Check.due("edition(0)", shell.edition(0), want[2]);
    }

    private static void declared() {
        SnippetShell shell = new SnippetShell();
        Check.dueRun(shell, "a", -201);
        dueDeclared(shell, new int[] {0, SnippetShell.NONE, 0});
        Check.dueRun(shell, "1", 1);
        Check.dueRun(shell, "var a", 0);
        dueDeclared(shell, new int[] {1, 1, 0});
        Check.dueRun(shell, "def a(x) = x", 0);
        dueDeclared(shell, new int[] {2, 2, 0});
        Check.dueRun(shell, "type a(x)", 0);
        dueDeclared(shell, new int[] {3, 3, 1});
        Check.dueRun(shell, "type a(y)", 0);
        dueDeclared(shell, new int[] {3, 4, 2});
        Check.dueRun(shell, "var a = 1/0", -204);
        dueDeclared(shell, new int[] {3, 4, 2});
        Check.dueRun(shell, "var a = 1", 0);
        dueDeclared(shell, new int[] {1, 5, 2});
        Check.dueRun(shell, "type a(y)", 0);
        dueDeclared(shell, new int[] {3, 6, 3});
        Check.due("what(x)", shell.what(1), 0);
        Check.due("by(x)", shell.by(1), SnippetShell.NONE);
        for (int name : new int[] {-1, 3, 40, Integer.MIN_VALUE, Integer.MAX_VALUE}) {
            Check.due("what(" + name + ")", shell.what(name), SnippetShell.UNKNOWN);
            Check.due("by(" + name + ")", shell.by(name), SnippetShell.UNKNOWN);
            Check.due("edition(" + name + ")", shell.edition(name), SnippetShell.UNKNOWN);
        }
    }
}
