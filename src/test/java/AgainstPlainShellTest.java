import java.util.Random;

/** Texts and calls by lot (always the same lot), asked of SnippetShell and of PlainShell. */
public final class AgainstPlainShellTest {
    private static final int SESSIONS = 3000;
    private static final int CALLS = 512;
    private static final String[] NAMES = {"a", "b", "f", "g", "t", "p", "x", "y", "point", "abcdefgh"};
    private static final int[] EDGES = {Integer.MIN_VALUE, -1, 0, 1, 2, 3, 4, 5, 6, 7, 39, 40, 41, 120, Integer.MAX_VALUE};

    private final Random lot;
    private final SnippetShell shell = new SnippetShell();
    private final PlainShell plain = new PlainShell();
    private int left = CALLS;
    private String told = "";

    private AgainstPlainShellTest(long seed) {
        lot = new Random(seed);
    }

    public static void main(String[] args) {
        for (int seed = 0; seed < SESSIONS; seed++) {
            new AgainstPlainShellTest(seed).session();
        }
        Check.end();
    }

    private void session() {
        for (String text : new String[] {"type t(x,y)", "type p(x)", "def f(x)=x", "var a=2", "var x=1", "var b=t(1,p(2))"}) {
            ask(lot.nextInt(8) == 0 ? spoilt(text) : text);
        }
        while (left > 0) {
            int turn = lot.nextInt(100);
            if (turn < 30) {
                ask(spoilt(snippetText()));
            } else if (turn < 98) {
                question();
            } else if (lot.nextInt(4) > 0) {
                same("erase()", shell.erase(), plain.erase());
            } else if (lot.nextInt(3) == 0) {
                same("reset()", shell.reset(), plain.reset());
            } else {
                long w = lot.nextLong();
                same("signs(" + w + ")", shell.signs(w), plain.signs(w));
            }
        }
    }

    private void same(String call, long got, long want) {
        left--;
        Check.due(told + call, got, want);
    }

    private void ask(String text) {
        told = "behind '" + text + "': ";
        for (int i = 0; i < text.length(); i += 8) {
            long w = Check.word(text.substring(i, Math.min(i + 8, text.length())));
            same("signs", shell.signs(w), plain.signs(w));
        }
        same("run()", shell.run(), plain.run());
        for (int what = 0; what < 5; what++) {
            same("thrown(" + what + ")", shell.thrown(what), plain.thrown(what));
        }
        if (shell.count(3) > 0) {
            same("erase()", shell.erase(), plain.erase());
        }
    }

    private void question() {
        int a = number();
        int b = number();
        switch (lot.nextInt(13)) {
            case 0 -> same("thrown " + a, shell.thrown(a), plain.thrown(a));
            case 1 -> same("kind " + a, shell.kind(a), plain.kind(a));
            case 2 -> same("whole " + a, Check.wholeOrThrown(shell, a), plain.wholeOrThrown(a));
            case 3 -> same("thing " + a + " " + b, shell.thing(a, b), plain.thing(a, b));
            case 4 -> {
                long w = lot.nextInt(8) == 0 ? lot.nextLong() : Check.word(oneName());
                same("name " + w, shell.name(w), plain.name(w));
            }
            case 5 -> same("letter " + a + " " + b, shell.letter(a, b), plain.letter(a, b));
            case 6 -> same("what " + a, shell.what(a), plain.what(a));
            case 7 -> same("by " + a, shell.by(a), plain.by(a));
            case 8 -> same("edition " + a, shell.edition(a), plain.edition(a));
            case 9 -> same("state " + a, shell.state(a), plain.state(a));
            case 10 -> same("text " + a + " " + b, Check.textOrThrown(shell, a, b), plain.textOrThrown(a, b));
            case 11 -> same("user " + a + " " + b, shell.user(a, b), plain.user(a, b));
            default -> same("count " + a, shell.count(a), plain.count(a));
        }
    }

    private int number() {
        int turn = lot.nextInt(12);
        return turn == 0 ? lot.nextInt() : turn < 4 ? EDGES[lot.nextInt(EDGES.length)] : lot.nextInt(12);
    }

    private String oneName() {
        return NAMES[lot.nextInt(NAMES.length)];
    }

    /** Mostly one of these, so that most EXPRS find what they need. */
    private String oneOf(String... usual) {
        return lot.nextInt(12) == 0 ? oneName() : usual[lot.nextInt(usual.length)];
    }

    private String blank() {
        return lot.nextInt(6) == 0 ? " " : "";
    }

    private String snippetText() {
        int depth = 1 + lot.nextInt(3);
        return switch (lot.nextInt(14)) {
            case 0 -> "var " + oneOf("a", "b");
            case 1, 2 -> "var " + oneOf("a", "b") + blank() + "=" + blank() + expr(depth);
            case 3 -> "var " + oneOf("a", "b") + " = " + call(1);
            case 4 -> "def f(x)=" + expr(depth);
            case 5 -> "def g(x,y) = " + expr(depth);
            case 6 -> "def " + oneName() + "(" + parts(0) + ")=" + expr(depth);
            case 7 -> "def f(x) = x<1 ? " + expr(1) + " : f(x-1)" + lotOf("+f(x-1)", ".x", "+f(x-2)") + lotOf("+f(x-1)", "", "*2");
            case 8 -> lotOf("type t(x,y)", "type p(x)", "type " + oneName() + blank() + "(" + parts(1) + ")");
            case 9 -> call(depth);
            case 10 -> "f(" + lot.nextInt(25) + ")";
            case 11 -> deep();
            default -> expr(depth);
        };
    }

    private String call(int depth) {
        String one = expr(depth - 1);
        String two = one + "," + expr(depth - 1);
        return switch (lot.nextInt(10)) {
            case 0, 1, 2 -> oneOf("f", "p") + "(" + one + ")";
            case 3, 4, 5, 6 -> oneOf("g", "t") + "(" + two + ")";
            case 7 -> oneName() + "(" + two + ",1)";
            case 8 -> oneName() + "()";
            default -> oneName() + lotOf("(" + one + ")", "(" + two + ")", "(" + two + ",1,2)");
        };
    }

    private String lotOf(String a, String b, String c) {
        return new String[] {a, b, c}[lot.nextInt(3)];
    }

    /** The edges of 12 that are open and of 60 TOKENS. */
    private String deep() {
        StringBuilder text = new StringBuilder();
        String closing = "";
        int most = lot.nextInt(16);
        if (lot.nextInt(4) == 0) {
            text.append("-".repeat(lot.nextInt(14))).append("1");
            return text.append("+1".repeat(20 + lot.nextInt(12))).toString();
        }
        for (int i = 0; i < most; i++) {
            switch (lot.nextInt(6)) {
                case 0 -> text.append("-");
                case 1 -> text.append("1?2:");
                case 2 -> {
                    text.append("f(");
                    closing = ")" + closing;
                }
                case 3 -> {
                    text.append("1?");
                    closing = ":0" + closing;
                }
                default -> {
                    text.append("(");
                    closing = ")" + closing;
                }
            }
        }
        return text + "a" + closing;
    }

    private String parts(int least) {
        int count = least + lot.nextInt(least == 0 ? 4 : 3);
        StringBuilder text = new StringBuilder();
        String[] some = {"x", "y", "a", "b"};
        for (int i = 0; i < count; i++) {
            text.append(i == 0 ? "" : ",").append(lot.nextInt(12) == 0 ? oneName() : some[i]);
        }
        return text.toString();
    }

    private String expr(int depth) {
        if (depth <= 0 || lot.nextInt(6) == 0) {
            return switch (lot.nextInt(8)) {
                case 0, 1 -> "" + lot.nextInt(4);
                case 2 -> "" + Math.abs(lot.nextLong() % 1_000_000_000_000_000_000L);
                case 3, 4 -> "$" + lot.nextInt(1 + Math.max(2, shell.count(1)));
                default -> oneOf("a", "b", "x");
            };
        }
        String left = blank() + expr(depth - 1) + blank();
        String right = blank() + expr(depth - 1) + blank();
        return switch (lot.nextInt(14)) {
            case 0 -> "-" + left;
            case 1 -> "(" + left + ")";
            case 2, 3, 4 -> lotOf(left, "$" + shell.count(1), call(1)) + "." + oneOf("x", "y");
            case 5 -> left + "?" + right + ":" + expr(depth - 1);
            case 6, 7, 8 -> call(depth);
            case 9 -> left + "<" + right;
            case 10 -> left + "=" + right;
            default -> left + "+-*/%".charAt(lot.nextInt(5)) + right;
        };
    }

    /** Now and then a sign too few, too many or another one. */
    private String spoilt(String text) {
        String some = "+-*/%<=?:(),.$ 19azA@";
        int at = lot.nextInt(text.length());
        String sign = "" + some.charAt(lot.nextInt(some.length()));
        return switch (lot.nextInt(12)) {
            case 0 -> text.substring(0, at) + text.substring(at + 1);
            case 1 -> text.substring(0, at) + sign + text.substring(at);
            case 2 -> text.substring(0, at) + sign + text.substring(at + 1);
            default -> text;
        };
    }
}
