/** Promises 1 A new object, 2 signs, 17 erase, 18 reset. */
public final class TextTest {
    public static void main(String[] args) {
        newObject(new SnippetShell(), "of a new object");
        signs();
        wrongSigns();
        fullText();
        erase();
        reset();
        Check.end();
    }

    private static void newObject(SnippetShell shell, String when) {
        for (int what = 0; what < 7; what++) {
            Check.due("count(" + what + ") " + when, shell.count(what), 0);
        }
        for (int what = 0; what < 5; what++) {
            Check.due("thrown(" + what + ") " + when, shell.thrown(what), 0);
        }
        Check.due("kind(1) " + when, shell.kind(1), SnippetShell.UNKNOWN);
        Check.due("whole(1) " + when, Check.wholeOrThrown(shell, 1), Check.NULL_POINTER);
        Check.due("thing(1, 0) " + when, shell.thing(1, 0), SnippetShell.UNKNOWN);
        Check.due("name(a) " + when, shell.name('a'), SnippetShell.NONE);
        Check.due("letter(0, 0) " + when, shell.letter(0, 0), SnippetShell.UNKNOWN);
        Check.due("what(0) " + when, shell.what(0), SnippetShell.UNKNOWN);
        Check.due("by(0) " + when, shell.by(0), SnippetShell.UNKNOWN);
        Check.due("edition(0) " + when, shell.edition(0), SnippetShell.UNKNOWN);
        Check.due("state(0) " + when, shell.state(0), SnippetShell.UNKNOWN);
        Check.due("text(0, 0) " + when, Check.textOrThrown(shell, 0, 0), Check.OUT_OF_BOUNDS);
        Check.due("user(0, 0) " + when, shell.user(0, 0), SnippetShell.UNKNOWN);
    }

    private static void signs() {
        SnippetShell shell = new SnippetShell();
        Check.due("signs(0)", shell.signs(0), 0);
        Check.due("signs of one", shell.signs(Check.word("4")), 1);
        Check.due("signs of eight", shell.signs(Check.word("2+  1000")), 9);
        Check.due("run()", shell.run(), 1);
        Check.due("the first sign is the highest byte", Check.wholeOrThrown(shell, 1), 1042);
        Check.due("signs with bytes 0 among them", shell.signs(0x0037003500000000L), 2);
        Check.due("run()", shell.run(), 2);
        Check.due("bytes 0 are none", Check.wholeOrThrown(shell, 2), 75);
    }

    private static void wrongSigns() {
        SnippetShell shell = new SnippetShell();
        Check.due("signs(' ')", shell.signs(32), 1);
        Check.due("signs('~')", shell.signs(126), 2);
        for (long w : new long[] {31, 127, 128, 255, 1, -1, Long.MIN_VALUE, 0x311F32, 0x7F31, 0x317F, 0x80L << 56 | 49}) {
            Check.due("signs(" + w + ")", shell.signs(w), SnippetShell.OUTSIDE);
            Check.due("count(3) behind it", shell.count(3), 2);
        }
    }

    private static void fullText() {
        SnippetShell shell = new SnippetShell();
        for (int i = 0; i < 14; i++) {
            shell.signs(Check.word("11111111"));
        }
        Check.due("signs up to 119", shell.signs(Check.word("1111111")), 119);
        Check.due("signs beyond 120", shell.signs(Check.word("11")), SnippetShell.FULL);
        Check.due("count(3) behind FULL", shell.count(3), 119);
        Check.due("signs: OUTSIDE is told ahead of FULL", shell.signs(0x311F), SnippetShell.OUTSIDE);
        Check.due("signs up to 120", shell.signs(Check.word("1")), 120);
        Check.due("signs(0) with 120", shell.signs(0), 120);
        Check.due("signs beyond 120", shell.signs(Check.word("1")), SnippetShell.FULL);
    }

    private static void erase() {
        SnippetShell shell = new SnippetShell();
        Check.due("erase() of nothing", shell.erase(), 0);
        Check.run(shell, "var a = 3");
        Check.type(shell, "a + 12345");
        Check.due("erase()", shell.erase(), 9);
        Check.due("count(3)", shell.count(3), 0);
        Check.due("erase() again", shell.erase(), 0);
        Check.dueWhole(shell, "a", 3);
    }

    private static void reset() {
        SnippetShell shell = new SnippetShell();
        Check.due("reset() of a new object", shell.reset(), 0);
        Check.run(shell, "type t(x)");
        Check.run(shell, "type t(x)");
        Check.run(shell, "var a = t(1)");
        Check.run(shell, "t(a)");
        Check.run(shell, "def f(x) = q + f(x)");
        Check.run(shell, "a.x.x");
        Check.type(shell, "1 +");
        Check.due("reset()", shell.reset(), 5);
        newObject(shell, "behind reset()");
        Check.dueRun(shell, "type b(t)", 0);
        Check.due("NAMES are numbered anew", shell.name('b'), 0);
        Check.due("edition(0)", shell.edition(0), 1);
        Check.due("edition(1)", shell.edition(1), 0);
        Check.due("what(1)", shell.what(1), 0);
        Check.dueRun(shell, "a", -201);
        Check.dueRun(shell, "b(2).t", 1);
        Check.due("reset() again", shell.reset(), 2);
    }
}
