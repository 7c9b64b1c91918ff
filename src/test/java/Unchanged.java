import java.util.ArrayList;
import java.util.List;
import java.util.function.Consumer;
import java.util.function.ToLongFunction;

/**
 * That a call changes nothing: of two objects with the same calls behind them one has that call
 * more, and both must answer alike from there on. The calls behind them are made again for each
 * lot of questions, as an object answers 512 calls only.
 */
final class Unchanged {
    private static final int LOTS = 6;

    private final Consumer<SnippetShell> story;
    private final ToLongFunction<SnippetShell> call;

    private Unchanged(Consumer<SnippetShell> story, ToLongFunction<SnippetShell> call) {
        this.story = story;
        this.call = call;
    }

    /** The answer of the call, twice, and that it changed nothing. */
    static void due(String told, Consumer<SnippetShell> story, ToLongFunction<SnippetShell> call, long want) {
        SnippetShell shell = new SnippetShell();
        story.accept(shell);
        Check.due(told, call.applyAsLong(shell), want);
        Check.due(told + " again", call.applyAsLong(shell), want);
        new Unchanged(story, call).compare(told);
    }

    private void compare(String told) {
        SnippetShell shell = new SnippetShell();
        story.accept(shell);
        int most = Math.max(shell.count(0), Math.max(shell.count(1), shell.count(2)));
        for (int lot = 0; lot < LOTS; lot++) {
            int parts = lot == 0 || lot == LOTS - 1 ? 0 : most;
            for (int part = 0; part <= parts; part++) {
                List<Long> without = answers(false, lot, part);
                List<Long> with = answers(true, lot, part);
                String what = told + ": lot " + lot + " of " + part + " was " + without + ", is " + with;
                Check.due(what + ": whether nothing changed", with.equals(without) ? 1 : 0, 1);
            }
        }
    }

    private List<Long> answers(boolean called, int lot, int part) {
        SnippetShell shell = new SnippetShell();
        story.accept(shell);
        if (called) {
            call.applyAsLong(shell);
        }
        List<Long> answers = new ArrayList<>();
        switch (lot) {
            case 0 -> addCounts(answers, shell);
            case 1 -> addResult(answers, shell, part);
            case 2 -> addName(answers, shell, part);
            case 3 -> addUsers(answers, shell, part);
            case 4 -> addSnippet(answers, shell, part);
            default -> addLater(answers, shell);
        }
        return answers;
    }

    private static void addCounts(List<Long> answers, SnippetShell shell) {
        for (int what = 0; what < 7; what++) {
            answers.add((long) shell.count(what));
        }
        for (int what = 0; what < 5; what++) {
            answers.add((long) shell.thrown(what));
        }
    }

    private static void addResult(List<Long> answers, SnippetShell shell, int result) {
        answers.add((long) shell.kind(result));
        answers.add(Check.wholeOrThrown(shell, result));
        for (int what = 0; what < 7; what++) {
            answers.add((long) shell.thing(result, what));
        }
    }

    private static void addName(List<Long> answers, SnippetShell shell, int name) {
        answers.add((long) shell.what(name));
        answers.add((long) shell.by(name));
        answers.add((long) shell.edition(name));
        long letters = 0;
        for (int i = 0; i < 9; i++) {
            int letter = shell.letter(name, i);
            answers.add((long) letter);
            letters = letter > 0 ? letters << 8 | letter : letters;
        }
        answers.add((long) shell.name(letters));
    }

    private static void addUsers(List<Long> answers, SnippetShell shell, int name) {
        for (int i = 0; i < 41; i++) {
            answers.add((long) shell.user(name, i));
        }
    }

    private static void addSnippet(List<Long> answers, SnippetShell shell, int snippet) {
        answers.add((long) shell.state(snippet));
        for (int i = 0; i <= 120; i++) {
            answers.add(Check.textOrThrown(shell, snippet, i));
        }
    }

    /** What THE TEXT was is told by what it does, and by the text that is KEPT. */
    private static void addLater(List<Long> answers, SnippetShell shell) {
        answers.add((long) shell.run());
        addCounts(answers, shell);
        addSnippet(answers, shell, shell.count(0) - 1);
        answers.add((long) shell.erase());
        answers.add((long) Check.run(shell, "12 + 34"));
        addCounts(answers, shell);
        answers.add((long) shell.reset());
        addCounts(answers, shell);
    }
}
