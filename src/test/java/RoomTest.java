import java.lang.management.ManagementFactory;

/**
 * All calls of a run live in one room of 7.3 million fields and elements: what the dearest runs of
 * 512 calls make must stay far below it. Eight bytes are taken for each, which is more than most are.
 */
public final class RoomTest {
    private static final long MOST_BYTES = 7_300_000L * 8 / 4;

    public static void main(String[] args) {
        dueRoom("many THINGS", RoomTest::manyThings);
        dueRoom("many THINGS of runs that fail", RoomTest::manyThingsThatFail);
        dueRoom("long texts that are KEPT", RoomTest::longTexts);
        dueRoom("questions", RoomTest::questions);
        Check.end();
    }

    private static void dueRoom(String told, Runnable run) {
        run.run();
        long before = allocated();
        run.run();
        long made = allocated() - before;
        Check.due(told + ": whether " + made + " bytes are few enough", made <= MOST_BYTES ? 1 : 0, 1);
    }

    private static long allocated() {
        return ((com.sun.management.ThreadMXBean) ManagementFactory.getThreadMXBean()).getThreadAllocatedBytes(Thread.currentThread().getId());
    }

    /** c(1) makes 330 THINGS in 399 STEPS. */
    private static void declareThings(SnippetShell shell) {
        Check.run(shell, "type t(x)");
        Check.run(shell, "def a(x)=" + "t(".repeat(11) + "x" + ")".repeat(11));
        Check.run(shell, "def b(x)=a(a(a(a(a(a(a(a(a(a(x))))))))))");
        Check.run(shell, "def c(x)=b(b(b(x)))");
    }

    private static void manyThings() {
        SnippetShell shell = new SnippetShell();
        declareThings(shell);
        for (int calls = 24; calls < 510; calls += 2) {
            if (shell.count(0) == 40) {
                shell.reset();
                declareThings(shell);
                calls += 25;
            }
            shell.signs(Check.word("c(1)"));
            shell.run();
        }
    }

    private static void manyThingsThatFail() {
        SnippetShell shell = new SnippetShell();
        declareThings(shell);
        for (int calls = 24; calls < 510; calls += 2) {
            shell.signs(Check.word("c(1)+1"));
            shell.run();
        }
    }

    private static void longTexts() {
        SnippetShell shell = new SnippetShell();
        for (int calls = 0; calls < 496; calls += 16) {
            Check.run(shell, "-1" + "+1".repeat(29) + " ".repeat(60));
            if (shell.count(0) == 40) {
                shell.reset();
            }
        }
    }

    private static void questions() {
        SnippetShell shell = new SnippetShell();
        declareThings(shell);
        for (int calls = 24; calls < 512; calls++) {
            shell.count(4);
            shell.count(5);
            shell.user(0, calls);
        }
    }
}
