/**
 * The document's sentences on SNIPPETS and their FAULTS: at each edge, one below it and one above
 * it. The comments are the sentences.
 */
public final class EdgeFaultTest {
    private static final String[] PARTS = {"", "a", "a,b", "a,b,c", "a,b,c,d", "a,b,c,d,e"};

    public static void main(String[] args) {
        namesOfMembers();
        namesOfTypes();
        noTwoAlike();
        exprsOfCalls();
        variables();
        oneTest();
        choices();
        facts();
        theEnd();
        sixtyOneTokens();
        openBrackets();
        openNegations();
        openChoices();
        openOfAllKinds();
        closedAgain();
        firstByPlace();
        nothingIsDone();
        Check.end();
    }

    private static void dueRuns(String text, int want) {
        Check.dueRun(new SnippetShell(), text, want);
    }

    /** "def NAME ( [ NAME { , NAME } ] ) = EXPR"; "In ( ) of def, type three NAMES at most". */
    private static void namesOfMembers() {
        for (int count = 0; count <= 3; count++) {
            SnippetShell shell = Check.with("def f(" + PARTS[count] + ") = 8");
            Check.dueWhole(shell, "f(" + "1,2,3".substring(0, Math.max(0, 2 * count - 1)) + ")", 8);
        }
        Check.dueFault("def f(a,b,c,d) = 8", 11);
        Check.dueFault("def f(a,b,c,d,e) = 8", 11);
        Check.dueFault("def f(a,b,c,) = 8", 11);
        Check.dueFault("def f(a,b,c", 11);
        Check.dueFault("def f(,) = 8", 6);
        Check.dueFault("def f(a,) = 8", 8);
        Check.dueFault("def f() 8", 8);
        Check.dueFault("def f()", 7);
        Check.dueFault("def f() =", 9);
        Check.dueFault("def f = 8", 6);
    }

    /** "type NAME ( NAME { , NAME } )"; "In ( ) of def, type three NAMES at most". */
    private static void namesOfTypes() {
        Check.dueFault("type t()", 7);
        for (int count = 1; count <= 3; count++) {
            SnippetShell shell = Check.with("type t(" + PARTS[count] + ")");
            Check.dueRun(shell, "t(" + "1,2,3".substring(0, 2 * count - 1) + ")", 1);
            Check.due("thing(1, 2)", shell.thing(1, 2), count);
        }
        Check.dueFault("type t(a,b,c,d)", 12);
        Check.dueFault("type t(a,b,c,d,e)", 12);
        Check.dueFault("type t(a,b,c,)", 12);
        Check.dueFault("type t(a,)", 9);
        Check.dueFault("type t(a) = 8", 10);
        Check.dueFault("type t", 6);
    }

    /** "no two alike". */
    private static void noTwoAlike() {
        String[] alike = {"a,a", "a,a,b", "a,b,b", "a,b,a"};
        int[] places = {2, 2, 4, 4};
        for (int i = 0; i < alike.length; i++) {
            Check.dueFault("def f(" + alike[i] + ") = 1", 6 + places[i]);
            Check.dueFault("type t(" + alike[i] + ")", 7 + places[i]);
        }
        Check.dueFault("type t(abcdefgh,abcdefgh)", 16);
        dueRuns("type t(abcdefgh,abcdefgi)", 0);
        dueRuns("type t(a,aa,aaa)", 0);
        dueRuns("def f(f,a,b) = f", 0);
        dueRuns("type t(t)", 0);
        Check.dueRun(Check.with("type t(a,b)", "def f(a,b) = 1"), "type p(a,b)", 0);
    }

    /** "A call has three EXPRS in its ( ) at most." */
    private static void exprsOfCalls() {
        dueRuns("f()", -201);
        dueRuns("f(1)", -201);
        dueRuns("f(1,2)", -201);
        dueRuns("f(1,2,3)", -201);
        Check.dueFault("f(1,2,3,4)", 7);
        Check.dueFault("f(1,2,3,4,5)", 7);
        Check.dueFault("f(1,2,3,)", 7);
        Check.dueFault("f(1,2,)", 6);
        Check.dueFault("f(,)", 2);
        Check.dueFault("f(1 2)", 4);
        Check.dueFault("f(1)(2)", 4);
        Check.dueFault("$1(2)", 2);
        dueRuns("f(f(1,2,3),f(1,2,3),f(1,2,3))", -201);
        Check.dueFault("f(f(1,2,3),f(1,2,3,4))", 18);
    }

    /** "var NAME [ = EXPR ]". */
    private static void variables() {
        dueRuns("var a", 0);
        dueRuns("var a = 1", 0);
        Check.dueFault("var a =", 7);
        Check.dueFault("var a 1", 6);
        Check.dueFault("var a = 1 2", 10);
        Check.dueFault("var a(b) = 1", 5);
        Check.dueFault("var 1", 4);
    }

    /** "TEST = SUM [ < SUM | = SUM ]": one of them at most. */
    private static void oneTest() {
        dueRuns("1", 1);
        dueRuns("1<2", 1);
        dueRuns("1=2", 1);
        for (String two : new String[] {"1<2<3", "1<2=3", "1=2<3", "1=2=3"}) {
            Check.dueFault(two, 3);
        }
        dueRuns("(1<2)<3", 1);
        dueRuns("1<(2=3)", 1);
        dueRuns("var a=1=2", 0);
        Check.dueFault("var a=1=2=3", 9);
    }

    /** "EXPR = TEST [ ? EXPR : EXPR ]". */
    private static void choices() {
        dueRuns("1<2?3<4:5<6", 1);
        dueRuns("1?2?3:4:5", 1);
        dueRuns("1?2:3?4:5", 1);
        Check.dueFault("1?2", 3);
        Check.dueFault("1?2:", 4);
        Check.dueFault("1?:2", 2);
        Check.dueFault("1:2", 1);
        Check.dueFault("1?2:3:4", 5);
        Check.dueFault("?1:2", 0);
        Check.dueFault("(1?2):3", 4);
        dueRuns("(1?2:3)?4:5", 1);
    }

    /** "FACT = - FACT | ATOM { . NAME }": the NAME of . is not called. */
    private static void facts() {
        dueRuns("-a.b.c", -201);
        Check.dueFault("a.-b", 2);
        Check.dueFault("a.b(1)", 3);
        Check.dueFault("a.1", 2);
        Check.dueFault("a.$1", 2);
        Check.dueFault("a.(b)", 2);
        dueRuns("(a).b", -201);
        dueRuns("1.b", -203);
        dueRuns("f(1).b", -201);
        Check.dueFault("+1", 0);
        Check.dueFault("1+*2", 2);
        Check.dueFault("()", 1);
        Check.dueFault("(1,2)", 2);
        Check.dueFault("1)", 1);
    }

    /** "(the end: how long THE TEXT is)": of texts that stop too early, with blanks behind them too. */
    private static void theEnd() {
        String[] texts = {"def f(a,b)=", "type t(a,b", "var ", "(1+2", "1?2:", "f(1,2", "a.b.", "-", "1<", "2*", "var a="};
        for (String text : texts) {
            Check.dueFault(text, text.length());
            Check.dueFault(text + " ", text.length() + 1);
            Check.dueFault(text + "    ", text.length() + 4);
            Check.dueFault("  " + text, text.length() + 2);
        }
    }

    /** "the 61st TOKEN": where it begins. */
    private static void sixtyOneTokens() {
        String fiftyNine = "1" + "+1".repeat(29);
        dueRuns(fiftyNine, 1);
        dueRuns("-" + fiftyNine, 1);
        dueRuns("-" + fiftyNine + "   ", 1);
        Check.dueFault("--" + fiftyNine, 60);
        Check.dueFault("--" + fiftyNine + "+1+1", 60);
        Check.dueFault("(" + fiftyNine + ")", 60);
        Check.dueFault("-" + fiftyNine + "  +1", 62);
        Check.dueFault("-" + fiftyNine + " @", 61);
        // sixty TOKENS behind which more would have to come
        Check.dueFault(fiftyNine + "+", 60);
        Check.dueFault(fiftyNine + "+ ", 61);
        Check.dueFault(fiftyNine + "+ 1", 61);
        // long TOKENS count as one each
        dueRuns("-1111111" + "+1".repeat(29) + " ".repeat(40), 1);
        Check.dueFault("--1111111" + "+1".repeat(29), 66);
        // sixty, and 61, that begin with var, def, type
        dueRuns("var a=" + "1" + "+1".repeat(28), 0);
        dueRuns("var a=-" + "1" + "+1".repeat(27), 0);
        dueRuns("var a=-" + "1" + "+1".repeat(27) + " ".repeat(9), 0);
        Check.dueFault("var a=-" + "1" + "+1".repeat(28), 63);
        dueRuns("def f()=" + "1" + "+1".repeat(27), 0);
        Check.dueFault("def f()=" + "1" + "+1".repeat(28), 63);
    }

    /** "a ( .. with which 13 of these are open (( to its )": of EXPRS and of calls. */
    private static void openBrackets() {
        for (int count = 11; count <= 14; count++) {
            String inner = "(".repeat(count) + "1" + ")".repeat(count);
            String calls = "f(".repeat(count) + "1" + ")".repeat(count);
            dueOpen(inner, 1, count, 12);
            dueOpen(calls, -201, count, 25);
            dueOpen("def g(a)=" + inner, 0, count, 9 + 12);
            dueOpen("var a=" + inner, 0, count, 6 + 12);
        }
    }

    private static void dueOpen(String text, int want, int count, int place) {
        dueRuns(text, count <= 12 ? want : -20 - place);
    }

    /** "- (of FACT) .. - to the end of its FACT". */
    private static void openNegations() {
        for (int count = 11; count <= 14; count++) {
            dueOpen("-".repeat(count) + "1", 1, count, 12);
            dueOpen("1" + "-".repeat(count + 1) + "1", 1, count, 14);
            dueOpen("-".repeat(count) + "a.b", -201, count, 12);
        }
        // it is open within all of its FACT, and not behind it
        Check.dueFault("-((((((((((((1))))))))))))", 12);
        Check.dueFault("-f((((((((((((1))))))))))))", 13);
        dueRuns("-1+((((((((((((1))))))))))))", 1);
        dueRuns("-1*((((((((((((1))))))))))))", 1);
        dueRuns("-1<((((((((((((1))))))))))))", 1);
        dueRuns("------------1+------------1", 1);
        dueRuns("------------1?2:3", 1);
        // - between two PRODS is none of these
        dueRuns("((((((((((((2-1-1-1))))))))))))", 1);
        dueRuns("1-((((((((((((1))))))))))))", 1);
    }

    /** "? .. ? to the end of its EXPR". */
    private static void openChoices() {
        for (int count = 11; count <= 14; count++) {
            dueOpen("1?".repeat(count) + "1" + ":2".repeat(count), 1, count, 25);
            dueOpen("1?2:".repeat(count) + "3", 1, count, 49);
        }
        // it is open behind ? and behind :, and not ahead of ?
        Check.dueFault("1?((((((((((((1)))))))))))):2", 13);
        Check.dueFault("1?2:((((((((((((1))))))))))))", 15);
        dueRuns("((((((((((((1))))))))))))?2:3", 1);
        dueRuns("(1?2:3)+((((((((((((1))))))))))))", 1);
        // the inner EXPR, and what is open with it, ends at :
        dueRuns("0?1?2?3?4?5?6?7?8:3:3:3:3:3:3:3:(((((((((((1)))))))))))", 1);
        Check.dueFault("0?1?2?3?4?5?6?7?8:3:3:3:3:3:3:3:((((((((((((1))))))))))))", 43);
        dueRuns("0?(((((((((((1))))))))))):(((((((((((1)))))))))))", 1);
    }

    /** "with which 13 of these are open": whichever they are. */
    private static void openOfAllKinds() {
        dueRuns("-(1?-(1?-(1?-(1:2):2):2):2)", -20 - 15);
        String eleven = "-(f(1?-(f(1?-(f(";
        dueRuns(eleven + "(1))):2)):2))", -201);
        Check.dueFault(eleven + "((1)))):2)):2))", 17);
        Check.dueFault(eleven + "(-1))):2)):2))", 17);
        Check.dueFault(eleven + "(f()))):2)):2))", 18);
        Check.dueFault(eleven + "(1?2:3))):2)):2))", 18);
        dueRuns(eleven + "-1)):2)):2))", -201);
        dueRuns(eleven + "1?2:3)):2)):2))", -201);
        dueRuns(eleven + "f())):2)):2))", -201);
    }

    /** "( to its ), - to the end of its FACT, ? to the end of its EXPR": what is closed counts no more. */
    private static void closedAgain() {
        dueRuns("(1)" + "+(1)".repeat(14), 1);
        dueRuns("-1" + "+-1".repeat(19), 1);
        dueRuns("f()" + "+f()".repeat(14), -201);
        dueRuns("(1?2:3)" + "+(1?2:3)".repeat(6), 1);
        dueRuns("f((((((1))))),(((((1))))),(((((1))))))", -201);
        dueRuns("((((((((((((1)+(1))))))))))))", 1);
        Check.dueFault("((((((((((((1)+((1)))))))))))))", 16);
        dueRuns("def f(a,b,c)=((((((((((((a))))))))))))", 0);
    }

    /** "The first one by place counts." */
    private static void firstByPlace() {
        // a TOKEN that cannot stand there, and a row that is too long
        Check.dueFault("1 2 abcdefghi", 2);
        Check.dueFault("abcdefghi 1 2", 0);
        // the 61st TOKEN, and each of the others
        String sixty = "-1" + "+1".repeat(29);
        Check.dueFault("1 " + "1+".repeat(31), 2);
        Check.dueFault("-1+1+$" + "+1".repeat(40), 5);
        Check.dueFault(sixty + " $", 61);
        Check.dueFault(sixty + "+" + "abcdefghi", 60);
        Check.dueFault("1" + "+1".repeat(28) + "+abcdefghi+1+1", 58);
        Check.dueFault("1" + "+1".repeat(29) + "+abcdefghi", 60);
        Check.dueFault("1" + "+1".repeat(17) + "+" + "-".repeat(30), 36 + 12);
        Check.dueFault("1" + "+1".repeat(25) + "+" + "-".repeat(30), 60);
        Check.dueFault("1" + "+1".repeat(23) + "+" + "-".repeat(12) + "-", 60);
        // the 13th that is open, and each of the others
        Check.dueFault("(".repeat(12) + "@(", 12);
        Check.dueFault("(".repeat(13) + "@", 12);
        Check.dueFault("(".repeat(12) + ")(", 12);
        Check.dueFault("(".repeat(12) + "$(", 12);
        // names alike, too many, and a row that is too long
        Check.dueFault("type t(a,a,abcdefghi)", 9);
        Check.dueFault("type t(abcdefghi,a,a)", 7);
        Check.dueFault("type t(a,b,a,d)", 11);
        Check.dueFault("f(1,2,3,$)", 7);
        Check.dueFault("f(1,$,3,4)", 4);
    }

    /** "with a FAULT nothing is done": but THE TEXT is empty then, and that run had no STEPS. */
    private static void nothingIsDone() {
        String[] faults = {"", "var a = 9 9", "def a(x) = 9 9", "type a(x) 9", "9 9", "b + ", "abcdefghi", "--" + "1+".repeat(29) + "1"};
        for (String fault : faults) {
            SnippetShell shell = Check.with("var a = 3", "a");
            int steps = shell.count(6);
            Check.type(shell, fault);
            Check.due("run of '" + fault + "': whether it has a FAULT", shell.run() <= -20 ? 1 : 0, 1);
            int[] want = {2, 1, 1, 0, 0, 0, steps};
            for (int what = 0; what < want.length; what++) {
                Check.due("count(" + what + ") behind '" + fault + "'", shell.count(what), want[what]);
            }
            for (int what = 0; what < 5; what++) {
                Check.due("thrown(" + what + ") behind '" + fault + "'", shell.thrown(what), 0);
            }
            Check.due("what(0)", shell.what(0), 1);
            Check.due("by(0)", shell.by(0), 0);
            Check.due("name(b)", shell.name('b'), SnippetShell.NONE);
            Check.dueWhole(shell, "a", 3);
        }
    }
}
