/** What the tests share: calls in plain words, and the count of answers that are not as due. */
final class Check {
    private static int wrong = 0;

    private Check() {
    }

    static void due(String call, long got, long want) {
        if (got != want) {
            wrong++;
            System.out.println(call + " answered " + got + ", due is " + want);
        }
    }

    /** The exit code tells whether an answer was wrong. */
    static void end() {
        System.out.println(wrong == 0 ? "all answers are as due" : wrong + " answers are not as due");
        if (wrong != 0) {
            System.exit(1);
        }
    }

    /** Eight signs at most, the first one in the highest byte. */
    static long word(String signs) {
        long w = 0;
        for (int i = 0; i < signs.length(); i++) {
            w = w << 8 | signs.charAt(i);
        }
        return w;
    }

    static void type(SnippetShell shell, String text) {
        for (int i = 0; i < text.length(); i += 8) {
            shell.signs(word(text.substring(i, Math.min(i + 8, text.length()))));
        }
    }

    static int run(SnippetShell shell, String text) {
        type(shell, text);
        return shell.run();
    }

    static void dueRun(SnippetShell shell, String text, int want) {
        due("run of '" + text + "'", run(shell, text), want);
    }

    /** A new object in which these texts were KEPT. */
    static SnippetShell with(String... texts) {
        SnippetShell shell = new SnippetShell();
        for (String text : texts) {
            int answer = run(shell, text);
            due("run of '" + text + "': whether it was KEPT", answer >= 0 ? 1 : answer, 1);
        }
        return shell;
    }

    /** A text whose FAULT has this place. */
    static void dueFault(String text, int place) {
        due("run of '" + text + "'", run(new SnippetShell(), text), -20 - place);
    }

    /** An EXPR alone that is this WHOLE. */
    static void dueWhole(SnippetShell shell, String text, long want) {
        int result = run(shell, text);
        due("run of '" + text + "' is a WHOLE", result >= 1 ? shell.kind(result) : result, 1);
        due("value of '" + text + "'", wholeOrThrown(shell, result), want);
    }

    /** A run that has this FAILURE at this place of THE TEXT. */
    static void dueFailure(SnippetShell shell, String text, int failure, int place) {
        int kept = shell.count(0);
        dueThrown(shell, text, new int[] {failure, kept, place, 0});
    }

    /** A run with this FAILURE, its SNIPPET, its place and its MEMBERS. */
    static void dueThrown(SnippetShell shell, String text, int[] want) {
        dueRun(shell, text, -200 - want[0]);
        for (int what = 0; what < want.length; what++) {
            due("thrown(" + what + ") of '" + text + "'", shell.thrown(what), want[what]);
        }
    }

    static final long NULL_POINTER = -1_000_001L;
    static final long CLASS_CAST = -1_000_002L;
    static final long OUT_OF_BOUNDS = -1_000_003L;

    static long wholeOrThrown(SnippetShell shell, int result) {
        try {
            return shell.whole(result);
        } catch (NullPointerException e) {
            dueThrownByTheClass(e);
            return NULL_POINTER;
        } catch (ClassCastException e) {
            dueThrownByTheClass(e);
            return CLASS_CAST;
        }
    }

    static long textOrThrown(SnippetShell shell, int snippet, int i) {
        try {
            return shell.text(snippet, i);
        } catch (ArrayIndexOutOfBoundsException e) {
            dueThrownByTheClass(e);
            return OUT_OF_BOUNDS;
        }
    }

    /** What the machine itself throws has a text of the machine's; the class throws without one. */
    private static void dueThrownByTheClass(RuntimeException e) {
        due("thrown by the class itself: " + e, e.getMessage() == null ? 1 : 0, 1);
    }
}
