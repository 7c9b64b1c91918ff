import java.util.function.Consumer;

/**
 * The document's sentences on what a run leaves behind, on what is FULL and on what is refused
 * first, and promises 1 A new object, 3 run and 18 reset: at each edge, one below it and one above
 * it. The comments are the sentences.
 */
public final class EdgeRunTest {
    private static final String LETTERS = "abcdefghijklmnopqrstuvwxyz";

    public static void main(String[] args) {
        newObject();
        objectsApart();
        answersOfRun();
        numbersOfResults();
        fortyKept();
        fullOfSnippetsOfAllKinds();
        whatIsNotKept();
        fortyNames();
        namesOneBelow();
        namesOfOneSnippet();
        namesThatAreMet();
        snippetsAheadOfFaultAheadOfNames();
        theTextStays();
        editions();
        resetOfEachState();
        resetOfFull();
        callsOfAnObject();
        Check.end();
    }

    /** "An empty TEXT; nothing is declared." */
    private static void newObject() {
        SnippetShell shell = new SnippetShell();
        dueNew(shell);
        Check.due("run() of the empty TEXT", shell.run(), -20);
        dueNew(shell);
        Check.dueRun(new SnippetShell(), "a", -201);
        Check.dueRun(new SnippetShell(), "a()", -201);
        Check.dueRun(new SnippetShell(), "$1", -201);
        Check.dueRun(new SnippetShell(), "7", 1);
    }

    private static void dueNew(SnippetShell shell) {
        for (int what = 0; what < 7; what++) {
            Check.due("count(" + what + ")", shell.count(what), 0);
        }
        for (int what = 0; what < 5; what++) {
            Check.due("thrown(" + what + ")", shell.thrown(what), 0);
        }
        for (int i = -1; i <= 1; i++) {
            Check.due("kind(" + i + ")", shell.kind(i), SnippetShell.UNKNOWN);
            Check.due("whole(" + i + ")", Check.wholeOrThrown(shell, i), Check.NULL_POINTER);
            Check.due("thing(" + i + ", 0)", shell.thing(i, 0), SnippetShell.UNKNOWN);
            Check.due("letter(" + i + ", 0)", shell.letter(i, 0), SnippetShell.UNKNOWN);
            Check.due("what(" + i + ")", shell.what(i), SnippetShell.UNKNOWN);
            Check.due("by(" + i + ")", shell.by(i), SnippetShell.UNKNOWN);
            Check.due("edition(" + i + ")", shell.edition(i), SnippetShell.UNKNOWN);
            Check.due("state(" + i + ")", shell.state(i), SnippetShell.UNKNOWN);
            Check.due("user(" + i + ", 0)", shell.user(i, 0), SnippetShell.UNKNOWN);
            Check.due("text(" + i + ", 0)", Check.textOrThrown(shell, i, 0), Check.OUT_OF_BOUNDS);
        }
        Check.due("name(a)", shell.name('a'), SnippetShell.NONE);
        Check.due("erase()", shell.erase(), 0);
    }

    /** Two objects have nothing to do with one another. */
    private static void objectsApart() {
        SnippetShell one = new SnippetShell();
        SnippetShell other = Check.with("type t(x)", "t(1)");
        Check.type(one, "1+");
        Check.run(other, "1/0");
        Check.type(other, "2");
        Check.type(one, "1");
        Check.due("run() of the one", one.run(), 1);
        Check.due("whole(1) of the one", Check.wholeOrThrown(one, 1), 2);
        Check.due("thrown(0) of the one", one.thrown(0), 0);
        Check.due("thrown(0) of the other", other.thrown(0), 4);
        Check.due("name(t) of the one", one.name('t'), SnippetShell.NONE);
        Check.due("run() of the other", other.run(), 2);
    }

    /** "0 declared; the number of the RESULT; -20 less the place of a FAULT; -200 less the FAILURE." */
    private static void answersOfRun() {
        SnippetShell shell = new SnippetShell();
        Check.dueRun(shell, "var a=1", 0);
        Check.dueRun(shell, "def f()=1", 0);
        Check.dueRun(shell, "type t(x)", 0);
        Check.dueRun(shell, "1", 1);
        Check.dueRun(shell, "1", 2);
        Check.dueRun(shell, "@", -20);
        Check.dueRun(shell, " @", -21);
        Check.dueRun(shell, " ".repeat(119) + "@", -139);
        Check.dueRun(shell, " ".repeat(120), -140);
        Check.dueRun(shell, "b", -201);
        Check.dueRun(shell, "var l=l", -201);
        Check.dueRun(shell, "def l()=l()", 0);
        Check.dueRun(shell, "l()", -209);
    }

    /** "its VALUE is RESULT k, k being 1, 2, ..": FAULTS, FAILURES and what is declared take no number. */
    private static void numbersOfResults() {
        SnippetShell shell = new SnippetShell();
        for (int k = 1; k <= 12; k++) {
            Check.dueRun(shell, "1 +", -23);
            Check.dueRun(shell, "1/0", -204);
            Check.dueRun(shell, "var a", 0);
            Check.due("kind(" + k + ") ahead of it", shell.kind(k), SnippetShell.UNKNOWN);
            Check.dueRun(shell, "100+" + k, k);
            Check.due("whole(" + k + ")", Check.wholeOrThrown(shell, k), 100 + k);
            Check.due("count(1)", shell.count(1), k);
            Check.due("count(0)", shell.count(0), 2 * k);
        }
        Check.due("whole(1)", Check.wholeOrThrown(shell, 1), 101);
    }

    private static void keep(SnippetShell shell, int count) {
        for (int k = 0; k < count; k++) {
            shell.signs('0' + k % 10);
            shell.run();
        }
    }

    /** "FULL: 40 SNIPPETS are KEPT": with 38, 39 and 40. */
    private static void fortyKept() {
        SnippetShell shell = new SnippetShell();
        keep(shell, 38);
        Check.due("count(0)", shell.count(0), 38);
        Check.dueRun(shell, "38", 39);
        Check.dueRun(shell, "39", 40);
        Check.due("count(0)", shell.count(0), 40);
        Check.dueRun(shell, "40", SnippetShell.FULL);
        Check.due("kind(40)", shell.kind(40), 1);
        Check.due("kind(41)", shell.kind(41), SnippetShell.UNKNOWN);
        Check.due("whole(40)", Check.wholeOrThrown(shell, 40), 39);
        Check.due("state(39)", shell.state(39), 0);
        Check.due("state(40)", shell.state(40), SnippetShell.UNKNOWN);
        Check.due("text(39, 1)", Check.textOrThrown(shell, 39, 1), '9');
        Check.due("text(40, 0)", Check.textOrThrown(shell, 40, 0), Check.OUT_OF_BOUNDS);
    }

    /** "FULL: 40 SNIPPETS are KEPT": whatever THE TEXT is, and nothing changes. */
    private static void fullOfSnippetsOfAllKinds() {
        for (String text : new String[] {"", "1", "var a=1", "def a()=1", "type a(x)", "1/0", "nosuch", "1 1", "abcdefghi"}) {
            Consumer<SnippetShell> full = shell -> {
                Check.run(shell, "1/0");
                keep(shell, 40);
                Check.type(shell, text);
            };
            Unchanged.due("run of '" + text + "' behind 40", full, shell -> shell.run(), SnippetShell.FULL);
            Consumer<SnippetShell> almost = shell -> {
                Check.run(shell, "1/0");
                keep(shell, 39);
            };
            SnippetShell shell = new SnippetShell();
            almost.accept(shell);
            Check.due("run of '" + text + "' behind 39: whether it is FULL", Check.run(shell, text) == SnippetShell.FULL ? 1 : 0, 0);
            Check.due("count(3)", shell.count(3), 0);
        }
    }

    /** "A SNIPPET that was run without FAULT and FAILURE is KEPT": others do not count to the 40. */
    private static void whatIsNotKept() {
        SnippetShell shell = new SnippetShell();
        keep(shell, 39);
        for (int k = 0; k < 50; k++) {
            Check.dueRun(shell, "1/0", -204);
            Check.dueRun(shell, "1 1", -22);
        }
        Check.due("count(0)", shell.count(0), 39);
        Check.dueRun(shell, "var a", 0);
        Check.due("by(0)", shell.by(0), 39);
        Check.dueRun(shell, "1/0", SnippetShell.FULL);
    }

    /** NAMES two letters long, so that 40 of them are told apart; each run brings one. */
    private static void meet(SnippetShell shell, int count) {
        for (int k = 0; k < count; k++) {
            shell.signs(Check.word("" + LETTERS.charAt(k / 10) + LETTERS.charAt(k % 10)));
            shell.run();
        }
    }

    /** "40 at most: a SNIPPET that would bring more is FULL, and is not run": with 40. */
    private static void fortyNames() {
        SnippetShell shell = new SnippetShell();
        meet(shell, 40);
        Check.due("count(2)", shell.count(2), 40);
        Check.due("letter(39, 0)", shell.letter(39, 0), 'd');
        Check.due("letter(39, 1)", shell.letter(39, 1), 'j');
        Check.due("what(39)", shell.what(39), 0);
        Check.due("what(40)", shell.what(40), SnippetShell.UNKNOWN);
        Check.dueRun(shell, "var dj=aa", -201);
        Check.dueRun(shell, "var dj=5", 0);
        Check.dueWhole(shell, "dj+1", 6);
        Check.dueRun(shell, "1", 2);
        Check.due("count(2)", shell.count(2), 40);
        for (String text : new String[] {"z", "var z=5", "def z()=1", "type z(aa)", "type aa(z)", "def aa(z)=1", "dj.z", "z(1)", "1?1:z", "z+zz", "aa+z"}) {
            Consumer<SnippetShell> full = other -> {
                meet(other, 40);
                Check.run(other, "var dj=5");
                Check.run(other, "1/0");
                Check.type(other, text);
            };
            Unchanged.due("run of '" + text + "' with 40 NAMES", full, other -> other.run(), SnippetShell.FULL);
        }
    }

    /** "40 at most": with 39 one comes, and two do not. */
    private static void namesOneBelow() {
        for (String text : new String[] {"z", "z+z", "z.z", "aa+z", "var z=5", "def z(z)=z", "type z(z)", "1?1:z"}) {
            SnippetShell shell = new SnippetShell();
            meet(shell, 39);
            Check.due("run of '" + text + "' with 39 NAMES: whether it is FULL", Check.run(shell, text) == SnippetShell.FULL ? 1 : 0, 0);
            Check.due("count(2)", shell.count(2), 40);
            Check.due("name(z)", shell.name('z'), 39);
        }
        for (String text : new String[] {"z+y", "y.z", "var z=y", "def z(y)=1", "type z(y)", "1?1:z(y)", "z+aa+y"}) {
            Consumer<SnippetShell> almost = shell -> {
                meet(shell, 39);
                Check.type(shell, text);
            };
            Unchanged.due("run of '" + text + "' with 39 NAMES", almost, shell -> shell.run(), SnippetShell.FULL);
        }
        SnippetShell shell = new SnippetShell();
        meet(shell, 38);
        Check.dueRun(shell, "def z(y)=z(y)", 0);
        Check.due("count(2)", shell.count(2), 40);
    }

    /** "as they are first met": a SNIPPET may bring thirty. */
    private static void namesOfOneSnippet() {
        String thirty = "a+b+c+d+e+f+g+h+i+j+k+l+m+n+o+p+q+r+s+t+u+v+w+x+y+z+aa+ab+ac+ad";
        SnippetShell shell = new SnippetShell();
        Check.dueRun(shell, thirty, -201);
        Check.due("count(2)", shell.count(2), 30);
        Check.due("name(ad)", shell.name(Check.word("ad")), 29);
        shell = new SnippetShell();
        Check.dueRun(shell, "ba+bb+bc+bd+be+bf+bg+bh+bi+bj", -201);
        Check.dueRun(shell, thirty, -201);
        Check.due("count(2)", shell.count(2), 40);
        Consumer<SnippetShell> eleven = other -> {
            Check.run(other, "ba+bb+bc+bd+be+bf+bg+bh+bi+bj+bk");
            Check.type(other, thirty);
        };
        Unchanged.due("run that would bring 41", eleven, other -> other.run(), SnippetShell.FULL);
    }

    /** "NAMES are numbered, 0, 1, .., as they are first met in a SNIPPET that has no FAULT". */
    private static void namesThatAreMet() {
        SnippetShell shell = new SnippetShell();
        Check.dueRun(shell, "a b", -22);
        Check.due("of a FAULT: count(2)", shell.count(2), 0);
        Check.dueRun(shell, "b+a", -201);
        Check.due("of a FAILURE: name(b)", shell.name('b'), 0);
        Check.due("of a FAILURE: name(a), which is not come to", shell.name('a'), 1);
        Check.dueRun(shell, "def f(y,x)=x+c.d(1)", -20 - 16);
        Check.due("count(2)", shell.count(2), 2);
        Check.dueRun(shell, "def f(y,x)=x+c.d+g(a)", 0);
        String met = "bafyxcdg";
        for (int i = 0; i < met.length(); i++) {
            Check.due("name(" + met.charAt(i) + ")", shell.name(met.charAt(i)), i);
        }
        Check.dueRun(shell, "0?h:1", 1);
        Check.due("of what is not taken: name(h)", shell.name('h'), 8);
        Check.due("count(2)", shell.count(2), 9);
    }

    /** "FULL: 40 SNIPPETS are KEPT; then (behind a FAULT) 41 NAMES." */
    private static void snippetsAheadOfFaultAheadOfNames() {
        SnippetShell shell = new SnippetShell();
        meet(shell, 40);
        Check.dueRun(shell, "z z", -22);
        Check.dueRun(shell, "z+", -22);
        Check.dueRun(shell, "z", SnippetShell.FULL);
        Check.due("erase()", shell.erase(), 1);
        keep(shell, 40);
        Check.dueRun(shell, "1 1", SnippetShell.FULL);
        Check.due("erase()", shell.erase(), 3);
        Check.dueRun(shell, "z", SnippetShell.FULL);
    }

    /** "THE TEXT is RUN, and empty then (with FULL it stays)". */
    private static void theTextStays() {
        for (String text : new String[] {"1", "var a", "1 1", "1/0"}) {
            SnippetShell shell = new SnippetShell();
            Check.run(shell, text);
            Check.due("count(3) behind '" + text + "'", shell.count(3), 0);
            Check.due("run() of the empty TEXT", shell.run(), -20);
        }
        SnippetShell shell = new SnippetShell();
        meet(shell, 40);
        Check.dueRun(shell, "1+z", SnippetShell.FULL);
        Check.due("count(3)", shell.count(3), 3);
        Check.due("signs go on behind it", shell.signs(' '), 4);
        Check.dueRun(shell, " z", -20 - 5);
        Check.dueRun(shell, "z", SnippetShell.FULL);
        Check.due("it goes on as NAME", shell.signs('z'), 2);
        Check.due("run()", shell.run(), SnippetShell.FULL);
        Check.due("erase()", shell.erase(), 2);
        Check.dueRun(shell, "1", 1);
    }

    /** "EDITIONS of a NAME as a TYPE are 1, 2, ..": whatever it was between. */
    private static void editions() {
        SnippetShell shell = Check.with("var t");
        int edition = 0;
        for (String between : new String[] {"type t(x)", "var t", "def t(x)=x", "type t(x)", "var p", "type p(x)"}) {
            Check.dueRun(shell, between, 0);
            edition += between.startsWith("type t") ? 1 : 0;
            Check.due("edition(t) behind '" + between + "'", shell.edition(0), edition);
            Check.dueRun(shell, "type t(x)", 0);
            edition++;
            Check.due("edition(t)", shell.edition(0), edition);
            Check.dueRun(shell, "t(1)", shell.count(1) + 1);
            Check.due("thing(.., 1)", shell.thing(shell.count(1), 1), edition);
            Check.due("count(5)", shell.count(5), shell.count(1) - 1);
        }
        Check.due("edition(p)", shell.edition(shell.name('p')), 1);
    }

    /** "All is as at the beginning: how many SNIPPETS were KEPT." */
    private static void resetOfEachState() {
        Unchanged.due("reset() of a new object", shell -> { }, shell -> shell.reset(), 0);
        String[][] stories = {{}, {"1 1"}, {"1/0"}, {"1"}, {"var a=1"}, {"type t(x)", "t(1)", "type t(x)"}, {"def f(x)=g(x)+y", "f(1)"}, {"$1"}};
        int[] kept = {0, 0, 0, 1, 1, 3, 1, 0};
        for (int i = 0; i < stories.length; i++) {
            SnippetShell shell = new SnippetShell();
            for (String text : stories[i]) {
                Check.run(shell, text);
            }
            Check.type(shell, "12+");
            Check.due("reset()", shell.reset(), kept[i]);
            dueNew(shell);
            Check.due("reset() again", shell.reset(), 0);
            Check.dueRun(shell, "t", -201);
            Check.due("name(t)", shell.name('t'), 0);
            Check.due("edition(0)", shell.edition(0), 0);
            Check.dueRun(shell, "type t(x)", 0);
            Check.due("edition(0)", shell.edition(0), 1);
            Check.dueRun(shell, "t(8).x", 1);
            Check.due("whole(1)", Check.wholeOrThrown(shell, 1), 8);
            Check.due("count(6)", shell.count(6), 4);
        }
    }

    /** "All is as at the beginning": from 120 signs, 40 NAMES and 40 SNIPPETS on. */
    private static void resetOfFull() {
        SnippetShell shell = new SnippetShell();
        meet(shell, 40);
        keep(shell, 40);
        Check.type(shell, "1".repeat(120));
        Check.due("signs()", shell.signs('1'), SnippetShell.FULL);
        Check.due("run()", shell.run(), SnippetShell.FULL);
        Check.due("reset()", shell.reset(), 40);
        dueNew(shell);
        meet(shell, 40);
        Check.due("count(2)", shell.count(2), 40);
        keep(shell, 40);
        Check.due("count(0)", shell.count(0), 40);
        Check.due("reset()", shell.reset(), 40);
    }

    /** "An object is used for at most 512 calls after it has been made": the 511th and 512th as the first. */
    private static void callsOfAnObject() {
        SnippetShell shell = new SnippetShell();
        for (int k = 0; k < 170; k++) {
            Check.due("signs()", shell.signs(Check.word("t(1/" + (char) ('1' - k % 2) + ")")), 6);
            Check.due("run()", shell.run(), -201);
            Check.due("thrown(0)", shell.thrown(0), 1);
        }
        Check.due("call 511", shell.signs('7'), 1);
        Check.due("call 512", shell.run(), 1);
        shell = new SnippetShell();
        Check.dueRun(shell, "type t(x)", 0);
        Check.dueRun(shell, "var a=t(7)", 0);
        for (int k = 0; k < 251; k++) {
            Check.due("signs()", shell.signs(Check.word("t(a).x+1")), 8);
            Check.due("run()", shell.run(), -203);
        }
        Check.due("call 509", shell.signs(Check.word("t(a).x.x")), 8);
        Check.due("call 510", shell.run(), 1);
        Check.due("call 511", shell.kind(1), 1);
        Check.due("call 512", Check.wholeOrThrown(shell, 1), 7);
    }
}
