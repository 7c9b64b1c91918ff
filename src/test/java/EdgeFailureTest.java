/**
 * The document's sentences on STEPS and FAILURES: at each edge, one below it and one above it.
 * The comments are the sentences.
 */
public final class EdgeFailureTest {
    private static final int LACKING = 1, NOTHING = 2, KIND = 3, ZERO = 4, COUNT = 5, FIELD = 6, OLD = 7, SPENT = 8, DEEP = 9;

    // seven calls of 50 STEPS, one of 40 to 42, and eight + : what stands behind them begins with that STEP
    private static final String SEVEN = "e()+e()+e()+e()+e()+e()+e()+";
    private static final String AT_399 = SEVEN + "h()+", AT_400 = SEVEN + "i()+", AT_401 = SEVEN + "j()+";
    private static final int PLACE = 32;

    public static void main(String[] args) {
        stepsOfEachKind();
        lackingNames();
        lackingResults();
        operators();
        oneSided();
        zero();
        counts();
        fields();
        old();
        oldAheadOfField();
        spentAtEachKind();
        spentInMembers();
        spentAheadOfOthers();
        spentOncePerRun();
        deep();
        deepOnlyMembers();
        orderOfCalls();
        nothingIsDeclared();
        Check.end();
    }

    private static void dueSteps(SnippetShell shell, String text, int want) {
        Check.run(shell, text);
        Check.due("STEPS of '" + text + "'", shell.thrown(4), want);
    }

    /** "each NUMBER, RESULT, NAME, call, - of FACT, . NAME, operator, test, ? is a STEP". */
    private static void stepsOfEachKind() {
        SnippetShell shell = Check.with("type t(x)", "var a=t(5)", "5", "def z()=7", "def f(x)=x");
        Check.due("count(6)", shell.count(6), 3);
        dueSteps(shell, "5", 1);
        dueSteps(shell, "$1", 1);
        dueSteps(shell, "a", 1);
        dueSteps(shell, "z()", 2);
        dueSteps(shell, "f(5)", 3);
        dueSteps(shell, "t(5)", 2);
        dueSteps(shell, "-5", 2);
        dueSteps(shell, "--5", 3);
        dueSteps(shell, "a.x", 2);
        dueSteps(shell, "5+5", 3);
        dueSteps(shell, "5-5", 3);
        dueSteps(shell, "5*5", 3);
        dueSteps(shell, "5/5", 3);
        dueSteps(shell, "5%5", 3);
        dueSteps(shell, "5<5", 3);
        dueSteps(shell, "5=5", 3);
        dueSteps(shell, "5?5:5", 3);
        dueSteps(shell, "((5))", 1);
        Check.due("count(6)", shell.count(6), 3 + 42);
        dueSteps(shell, "var b", 0);
        dueSteps(shell, "var b=5", 1);
        dueSteps(shell, "def g()=5", 0);
        dueSteps(shell, "type u(x)", 0);
        dueSteps(shell, "5 5", 0);
        // of a FAILURE: those that began
        dueSteps(shell, "nosuch", 1);
        dueSteps(shell, "nosuch(5,5)", 1);
        dueSteps(shell, "f(5,5)", 1);
        dueSteps(shell, "5+nosuch*5", 4);
        dueSteps(shell, "5/0+5", 4);
        dueSteps(shell, "5/0?5:5", 4);
        Check.due("count(6)", shell.count(6), 45 + 1 + 15);
    }

    /** "no VARIABLE, MEMBER or TYPE of that NAME (of one that is called: a VARIABLE is none; ..)". */
    private static void lackingNames() {
        SnippetShell shell = Check.with("var v=1", "def m(x)=x", "type t(x)");
        Check.dueWhole(shell, "v", 1);
        Check.dueWhole(shell, "m(1)", 1);
        Check.dueRun(shell, "t(1)", 3);
        Check.dueFailure(shell, "2+v(1)", LACKING, 2);
        Check.dueFailure(shell, "2+m", LACKING, 2);
        Check.dueFailure(shell, "2+t", LACKING, 2);
        Check.dueFailure(shell, "2+nosuch", LACKING, 2);
        Check.dueFailure(shell, "2+nosuch(1)", LACKING, 2);
        Check.dueFailure(shell, "x", LACKING, 0);
        Check.dueFailure(shell, "var w=w", LACKING, 6);
        Check.dueRun(shell, "def v(x)=x", 0);
        Check.dueFailure(shell, "v", LACKING, 0);
        Check.dueRun(shell, "var m=1", 0);
        Check.dueFailure(shell, "m(1)", LACKING, 0);
    }

    /** "no such RESULT": below the first, the last, and behind it. */
    private static void lackingResults() {
        SnippetShell shell = new SnippetShell();
        Check.dueFailure(shell, "2+$0", LACKING, 2);
        Check.dueFailure(shell, "2+$1", LACKING, 2);
        Check.dueWhole(shell, "70", 70);
        Check.dueFailure(shell, "2+$0", LACKING, 2);
        Check.dueFailure(shell, "2+$000", LACKING, 2);
        Check.dueWhole(shell, "2+$1", 72);
        Check.dueFailure(shell, "2+$3", LACKING, 2);
        Check.dueWhole(shell, "$2", 72);
        Check.dueFailure(shell, "$40", LACKING, 0);
        Check.dueFailure(shell, "$41", LACKING, 0);
        Check.dueFailure(shell, "$999", LACKING, 0);
        shell.reset();
        Check.dueFailure(shell, "$1", LACKING, 0);
    }

    /** "of 2 and 3 the left part is asked first (2 of both ahead of 3)": all parts of all operators. */
    private static void operators() {
        String[] parts = {"n", "a", "0", "1"};
        for (String sign : "+-*/%<=".split("")) {
            SnippetShell shell = Check.with("var n", "type t(x)", "var a=t(1)");
            for (String left : parts) {
                for (String right : parts) {
                    int failure = failureOf(left, sign, right);
                    String text = left + " " + sign + " " + right;
                    if (failure != 0) {
                        Check.dueFailure(shell, text, failure, 2);
                    } else {
                        Check.due("run of '" + text + "': whether it is KEPT", Check.run(shell, text) > 0 ? 1 : 0, 1);
                    }
                }
            }
        }
    }

    private static int failureOf(String left, String sign, String right) {
        boolean things = left.equals("a") && right.equals("a");
        if (left.equals("n") || right.equals("n")) {
            return NOTHING;
        }
        if (left.equals("a") || right.equals("a")) {
            return things && sign.equals("=") ? 0 : KIND;
        }
        return right.equals("0") && "/%".contains(sign) ? ZERO : 0;
    }

    /** "a part of - . .. ? (the one ahead) is NOTHING"; "a THING where a WHOLE must be .. . of a WHOLE". */
    private static void oneSided() {
        SnippetShell shell = Check.with("var n", "type t(x)", "var a=t(n)", "def f(x)=1");
        Check.dueFailure(shell, "3+-n", NOTHING, 2);
        Check.dueFailure(shell, "3+-a", KIND, 2);
        Check.dueWhole(shell, "3+-1", 2);
        Check.dueFailure(shell, "n.x", NOTHING, 1);
        Check.dueFailure(shell, "1.x", KIND, 1);
        Check.dueFailure(shell, "0.x", KIND, 1);
        Check.dueRun(shell, "a.x", 2);
        Check.dueFailure(shell, "a.x.x", NOTHING, 3);
        Check.dueFailure(shell, "n.nosuch", NOTHING, 1);
        Check.dueFailure(shell, "1.nosuch", KIND, 1);
        Check.dueFailure(shell, "n?1:2", NOTHING, 1);
        Check.dueFailure(shell, "a?1:2", KIND, 1);
        // NOTHING and THINGS may be what ? takes, an ARGUMENT, a FIELD's VALUE
        Check.dueRun(shell, "1?n:2", 3);
        Check.dueRun(shell, "0?n:a", 4);
        Check.dueWhole(shell, "f(n)+f(a)", 2);
        Check.dueRun(shell, "t(n)", 6);
        Check.dueRun(shell, "t(a)", 7);
    }

    /** "ZERO: / % by 0". */
    private static void zero() {
        SnippetShell shell = Check.with("var z=0");
        for (String sign : "/%".split("")) {
            Check.dueFailure(shell, "5" + sign + "0", ZERO, 1);
            Check.dueFailure(shell, "0" + sign + "0", ZERO, 1);
            Check.dueFailure(shell, "5" + sign + "z", ZERO, 1);
            Check.dueFailure(shell, "5" + sign + "-0", ZERO, 1);
            Check.dueFailure(shell, "5" + sign + "(1-1)", ZERO, 1);
            Check.dueRun(shell, "5" + sign + "1", shell.count(1) + 1);
            Check.dueRun(shell, "5" + sign + "-1", shell.count(1) + 1);
            Check.dueRun(shell, "0" + sign + "5", shell.count(1) + 1);
            Check.dueRun(shell, "5" + sign + "4294967296", shell.count(1) + 1);
        }
    }

    /** "another number of EXPRS than a MEMBER, TYPE has": one less and one more, for each number. */
    private static void counts() {
        String[] given = {"", "1", "1,2", "1,2,3"};
        String[] parts = {"", "a", "a,b", "a,b,c"};
        for (int has = 0; has <= 3; has++) {
            SnippetShell shell = Check.with("def f(" + parts[has] + ")=1");
            for (int count = 0; count <= 3; count++) {
                dueCount(shell, "f(" + given[count] + ")", count == has);
            }
            if (has > 0) {
                Check.dueRun(shell, "type t(" + parts[has] + ")", 0);
                for (int count = 0; count <= 3; count++) {
                    dueCount(shell, "t(" + given[count] + ")", count == has);
                }
            }
        }
    }

    private static void dueCount(SnippetShell shell, String call, boolean right) {
        if (right) {
            Check.due("run of " + call, Check.run(shell, call), shell.count(1));
        } else {
            Check.dueFailure(shell, call, COUNT, 0);
        }
    }

    /** "FIELD: none of that NAME". */
    private static void fields() {
        SnippetShell shell = Check.with("type t(x,y)", "type p(z)", "var a=t(1,p(2))");
        Check.dueWhole(shell, "a.x", 1);
        Check.dueWhole(shell, "a.y.z", 2);
        Check.dueFailure(shell, "a.z", FIELD, 1);
        Check.dueFailure(shell, "a.t", FIELD, 1);
        Check.dueFailure(shell, "a.nosuch", FIELD, 1);
        Check.dueFailure(shell, "a.y.x", FIELD, 3);
        Check.dueFailure(shell, "a.z.z", FIELD, 1);
    }

    /** "OLD: . of a THING whose TYPE is no more, or was declared anew". */
    private static void old() {
        for (String again : new String[] {"type t(x)", "type t(x,y)", "type t(y)", "var t", "var t=1", "def t(x)=x"}) {
            SnippetShell shell = Check.with("type t(x)", "type p(x)", "var a=t(1)", "var b=p(a)", "t(1)");
            Check.dueWhole(shell, "a.x", 1);
            Check.dueRun(shell, again, 0);
            Check.dueFailure(shell, "a.x", OLD, 1);
            Check.dueFailure(shell, "$1.x", OLD, 2);
            Check.dueFailure(shell, "b.x.x", OLD, 3);
            Check.dueWhole(shell, "b.x=a", 1);
            Check.dueRun(shell, "type t(x)", 0);
            Check.dueFailure(shell, "a.x", OLD, 1);
            Check.dueWhole(shell, "t(6).x", 6);
            Check.dueFailure(shell, "a+1", KIND, 1);
            Check.dueFailure(shell, "-a", KIND, 0);
        }
        SnippetShell shell = Check.with("type t(x)", "var a=t(1)");
        Check.dueRun(shell, "type t(x) 1", -30);
        Check.dueRun(shell, "var t=1/0", -204);
        Check.dueWhole(shell, "a.x", 1);
    }

    /** "(ahead of 6)". */
    private static void oldAheadOfField() {
        SnippetShell shell = Check.with("type t(x)", "var a=t(1)");
        Check.dueFailure(shell, "a.nosuch", FIELD, 1);
        Check.dueRun(shell, "type t(y)", 0);
        Check.dueFailure(shell, "a.nosuch", OLD, 1);
        Check.dueFailure(shell, "a.x", OLD, 1);
        Check.dueFailure(shell, "a.y", OLD, 1);
        Check.dueFailure(shell, "t(1).x", FIELD, 4);
    }

    /** A MEMBER whose call has this number of STEPS. */
    private static String filler(char name, int steps) {
        boolean odd = steps % 2 != 0;
        return "def " + name + "()=" + (odd ? "-" : "") + "1" + "+1".repeat((steps - 2) / 2);
    }

    private static SnippetShell withFillers() {
        return Check.with(filler('e', 50), filler('h', 40), filler('i', 41), filler('j', 42), "type t(x)", "var b=t(4)", "var v=7", "8");
    }

    /** "the 401st STEP of a run"; "a STEP as it begins, ahead of its parts"; "of operators .. that, of others their first one". */
    private static void spentAtEachKind() {
        String[] parts = {"1", "$1", "v", "z()", "nosuch(1)", "-1", "--1", "b.x", "t(1)", "2*3", "2/3", "2%3", "v.x*2", "(2-3)", "(1<2)", "(1=2)", "(1?2:3)"};
        int[] firsts = {0, 0, 0, 0, 0, 0, 0, 1, 0, 1, 1, 1, 3, 2, 2, 2, 2};
        int[] seconds = {-1, -1, -1, -1, -1, 1, 1, 0, 2, 0, 0, 0, 1, 1, 1, 1, 1};
        for (int i = 0; i < parts.length; i++) {
            SnippetShell shell = withFillers();
            Check.dueFailure(shell, AT_401 + parts[i], SPENT, PLACE + firsts[i]);
            Check.due("thrown(4)", shell.thrown(4), 401);
            if (seconds[i] >= 0) {
                Check.dueFailure(shell, AT_400 + parts[i], SPENT, PLACE + seconds[i]);
                Check.due("thrown(4)", shell.thrown(4), 401);
            }
        }
        SnippetShell shell = withFillers();
        dueSteps(shell, AT_399 + "1", 399);
        dueSteps(shell, AT_400 + "1", 400);
        Check.due("thrown(0)", shell.thrown(0), 0);
        dueSteps(shell, AT_399 + "-1", 400);
        Check.due("thrown(0)", shell.thrown(0), 0);
        dueSteps(shell, AT_401 + "1", 401);
        Check.due("thrown(0)", shell.thrown(0), SPENT);
    }

    /** "1 the SNIPPET in whose text it came .. 2 the place there, 3 within how many MEMBERS": of SPENT. */
    private static void spentInMembers() {
        SnippetShell shell = withFillers();
        Check.dueRun(shell, "def g(x)=x", 0);
        Check.dueRun(shell, "def k(x)=g(x)", 0);
        Check.dueThrown(shell, AT_399 + "g(1)", new int[] {SPENT, 8, 9, 1, 401});
        Check.dueThrown(shell, AT_400 + "g(1)", new int[] {SPENT, 10, PLACE + 2, 0, 401});
        Check.dueThrown(shell, AT_401 + "g(1)", new int[] {SPENT, 10, PLACE, 0, 401});
        Check.dueThrown(shell, AT_399 + "k(1)", new int[] {SPENT, 9, 9, 1, 401});
        Check.dueThrown(shell, SEVEN + "h()-k(1)", new int[] {SPENT, 9, 9, 1, 401});
        Check.dueRun(shell, "def l()=l()", 0);
        Check.dueThrown(shell, "l()", new int[] {DEEP, 10, 8, 20, 21});
    }

    /** A STEP is counted as it begins: SPENT is told ahead of what would fail at the same TOKEN. */
    private static void spentAheadOfOthers() {
        SnippetShell shell = withFillers();
        Check.dueFailure(shell, AT_400 + "nosuch", LACKING, PLACE);
        Check.dueFailure(shell, AT_401 + "nosuch", SPENT, PLACE);
        Check.dueFailure(shell, AT_400 + "nosuch(1)", LACKING, PLACE);
        Check.dueFailure(shell, AT_401 + "nosuch(1)", SPENT, PLACE);
        Check.dueFailure(shell, AT_400 + "$9", LACKING, PLACE);
        Check.dueFailure(shell, AT_401 + "$9", SPENT, PLACE);
        Check.dueFailure(shell, AT_400 + "t()", COUNT, PLACE);
        Check.dueFailure(shell, AT_401 + "t()", SPENT, PLACE);
        Check.dueFailure(shell, AT_399 + "-b", KIND, PLACE);
        Check.dueFailure(shell, AT_400 + "-b", SPENT, PLACE + 1);
        // an operator ahead of the 401st STEP fails behind it only
        Check.dueFailure(shell, SEVEN + "i()%b", KIND, 31);
        Check.dueFailure(shell, SEVEN + "i()+b", KIND, 31);
        Check.dueFailure(shell, SEVEN + "j()+b", SPENT, 32);
    }

    /** "of a run": each run has its 400 STEPS; what was spent before does not count. */
    private static void spentOncePerRun() {
        SnippetShell shell = withFillers();
        int before = shell.count(6);
        for (int k = 1; k <= 3; k++) {
            dueSteps(shell, AT_400 + "1", 400);
            dueSteps(shell, AT_401 + "1", 401);
            Check.due("count(6)", shell.count(6), before + k * 801);
        }
    }

    /** "DEEP: a MEMBER within 20 others". */
    private static void deep() {
        SnippetShell shell = Check.with("def f(x)=x<1?nosuch:f(x-1)", "def g(x)=f(x)");
        // f(n) stands within n others when it comes to nosuch
        Check.dueThrown(shell, "f(0)", new int[] {LACKING, 0, 13, 1});
        Check.dueThrown(shell, "f(1)", new int[] {LACKING, 0, 13, 2});
        Check.dueThrown(shell, "f(18)", new int[] {LACKING, 0, 13, 19});
        Check.dueThrown(shell, "f(19)", new int[] {LACKING, 0, 13, 20});
        Check.dueThrown(shell, "f(20)", new int[] {DEEP, 0, 20, 20});
        Check.dueThrown(shell, "f(21)", new int[] {DEEP, 0, 20, 20});
        Check.dueThrown(shell, "g(18)", new int[] {LACKING, 0, 13, 20});
        Check.dueThrown(shell, "g(19)", new int[] {DEEP, 0, 20, 20});
        Check.dueThrown(shell, "var a=f(20)", new int[] {DEEP, 0, 20, 20});
    }

    /** A TYPE is no MEMBER, and what a call has in its ( ) is not within that call. */
    private static void deepOnlyMembers() {
        SnippetShell shell = Check.with("type t(x)", "def f(x)=x<1?t(t(t(x))):f(x-1)", "def i(x)=x", "def g(x)=x<1?i(x):g(x-1)");
        Check.dueRun(shell, "f(19)", 1);
        Check.dueRun(shell, "f(20)", -209);
        Check.dueWhole(shell, "g(18)", 0);
        Check.dueThrown(shell, "g(19)", new int[] {DEEP, 3, 13, 20});
        Check.dueWhole(shell, "i(i(i(i(i(i(i(i(i(i(i(i(3))))))))))))", 3);
        Check.dueWhole(shell, "g(g(18))+g(g(18))", 0);
        Check.dueThrown(shell, "i(1)+i(g(19))", new int[] {DEEP, 3, 13, 20});
        // the call of f in f's own ( ) is not within it
        Check.dueRun(shell, "def p(x)=x<1?0:p(i(x)-1)", 0);
        Check.dueWhole(shell, "p(19)", 0);
        Check.dueThrown(shell, "p(20)", new int[] {DEEP, shell.count(0) - 2, 15, 20});
    }

    /** "1, 5 and 9 of a call ahead of its parts (in the order 1, 5, 9)". */
    private static void orderOfCalls() {
        SnippetShell shell = Check.with("def m(x)=x", "type t(x)", "def f(x)=x<1?nosuch(1/0,2):f(x-1)", "def g(x)=x<1?m(1/0,2):g(x-1)",
            "def h(x)=x<1?m(1/0):h(x-1)", "def k(x)=x<1?t(1/0,2):k(x-1)", "def l(x)=x<1?t(1/0):l(x-1)");
        Check.dueFailure(shell, "nosuch(1/0)", LACKING, 0);
        Check.dueFailure(shell, "m(1/0,2)", COUNT, 0);
        Check.dueFailure(shell, "m(1/0)", ZERO, 3);
        Check.dueFailure(shell, "t(1/0,2)", COUNT, 0);
        Check.dueFailure(shell, "t(1/0)", ZERO, 3);
        // within 20 MEMBERS
        Check.dueThrown(shell, "f(19)", new int[] {LACKING, 2, 13, 20});
        Check.dueThrown(shell, "g(19)", new int[] {COUNT, 3, 13, 20});
        Check.dueThrown(shell, "h(19)", new int[] {DEEP, 4, 13, 20});
        Check.dueThrown(shell, "h(18)", new int[] {ZERO, 4, 16, 19});
        Check.dueThrown(shell, "k(19)", new int[] {COUNT, 5, 13, 20});
        Check.dueThrown(shell, "l(19)", new int[] {ZERO, 6, 16, 20});
    }

    /** "With a FAILURE nothing is declared and no RESULT comes." For each FAILURE. */
    private static void nothingIsDeclared() {
        String[] failing = {"nosuch", "-n", "-a", "1/0", "m()", "a.z", "o.x", AT_401 + "1", "l()"};
        for (int failure = 1; failure <= 9; failure++) {
            SnippetShell shell = withFillers();
            for (String text : new String[] {"var n", "var a=t(1)", "def m(x)=x", "type u(x)", "var o=u(1)", "type u(x)", "def l()=l()", "var c=3"}) {
                Check.dueRun(shell, text, 0);
            }
            for (String text : new String[] {failing[failure - 1], "var c=" + failing[failure - 1], "var u=" + failing[failure - 1]}) {
                Check.dueRun(shell, text, -200 - failure);
                Check.due("thrown(0)", shell.thrown(0), failure);
                Check.due("count(0)", shell.count(0), 16);
                Check.due("count(1)", shell.count(1), 1);
                Check.due("count(3)", shell.count(3), 0);
                Check.due("kind(2)", shell.kind(2), SnippetShell.UNKNOWN);
                Check.due("state(16)", shell.state(16), SnippetShell.UNKNOWN);
                Check.due("by(c)", shell.by(shell.name('c')), 15);
                Check.due("what(u)", shell.what(shell.name('u')), 3);
                Check.due("edition(u)", shell.edition(shell.name('u')), 2);
            }
            Check.dueWhole(shell, "c", 3);
        }
    }
}
