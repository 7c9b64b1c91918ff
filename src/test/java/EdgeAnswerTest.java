import java.util.function.Consumer;
import java.util.function.ToLongFunction;

/**
 * Promises 4 to 16, the calls that ask: each UNKNOWN, OUTSIDE, NONE and exception at its edge, one
 * below it and one above it; and that no such call changes anything. The comments are the sentences.
 */
public final class EdgeAnswerTest {
    private static final int[] FAR = {Integer.MIN_VALUE, Integer.MIN_VALUE + 1, -256, -1, 256, 1 << 16, Integer.MAX_VALUE - 1, Integer.MAX_VALUE};

    public static void main(String[] args) {
        thrownOfEachRun();
        thrownPlaces();
        thrownBeforeAny();
        thrownOutside();
        kind();
        whole();
        wholeEnds();
        thing();
        thingOutside();
        thingOld();
        name();
        nameOfNone();
        letter();
        what();
        by();
        edition();
        stateReplaced();
        stateWaiting();
        stateUnknown();
        text();
        user();
        uses();
        count();
        countOld();
        nothingChanges();
        Check.end();
    }

    private static void dueThrown(SnippetShell shell, int... want) {
        for (int what = 0; what < want.length; what++) {
            Check.due("thrown(" + what + ")", shell.thrown(what), want[what]);
        }
    }

    /** "Of the latest run() that was not FULL: 0 the FAILURE (0: none)". */
    private static void thrownOfEachRun() {
        SnippetShell shell = new SnippetShell();
        Check.dueRun(shell, "2+3/0", -204);
        dueThrown(shell, 4, 0, 3, 0, 5);
        Check.dueRun(shell, "2+3", 1);
        dueThrown(shell, 0, 0, 0, 0, 3);
        Check.dueRun(shell, " 3/0", -204);
        dueThrown(shell, 4, 1, 2, 0, 3);
        Check.dueRun(shell, "3 3", -22);
        dueThrown(shell, 0, 0, 0, 0, 0);
        Check.dueRun(shell, "3/0", -204);
        Check.dueRun(shell, "var a=1", 0);
        dueThrown(shell, 0, 0, 0, 0, 1);
        Check.dueRun(shell, "3/0", -204);
        dueThrown(shell, 4, 2, 1, 0, 3);
        Check.dueRun(shell, "def f()=3/0", 0);
        dueThrown(shell, 0, 0, 0, 0, 0);
        // other calls leave it
        Check.dueRun(shell, "3/0", -204);
        shell.signs('1');
        shell.erase();
        shell.signs(31);
        dueThrown(shell, 4, 3, 1, 0, 3);
        for (int k = shell.count(0); k < 40; k++) {
            Check.run(shell, "1");
        }
        Check.dueRun(shell, "1/0", SnippetShell.FULL);
        dueThrown(shell, 0, 0, 0, 0, 1);
    }

    /** "1 the SNIPPET in whose text it came (how many are KEPT, if that was THE TEXT), 2 the place there, 3 within how many MEMBERS". */
    private static void thrownPlaces() {
        SnippetShell shell = Check.with("def f(x)=1/x", "def g(x)= f(x)+f(x-1)", "def h(x)=  g(x)");
        Check.dueThrown(shell, "1/0", new int[] {4, 3, 1, 0, 3});
        Check.dueThrown(shell, "f(0)", new int[] {4, 0, 10, 1, 5});
        Check.dueThrown(shell, "g(0)", new int[] {4, 0, 10, 2, 8});
        Check.dueThrown(shell, "h(1)", new int[] {4, 0, 10, 3, 17});
        Check.dueThrown(shell, "h(1/0)", new int[] {4, 3, 3, 0, 4});
        Check.dueThrown(shell, "h(h(2/0))", new int[] {4, 3, 5, 0, 5});
        Check.dueThrown(shell, "1+f(f(1)-1)", new int[] {4, 0, 10, 1, 13});
        Check.dueRun(shell, "def f(x)=   1/x", 0);
        Check.dueThrown(shell, "h(0)", new int[] {4, 3, 13, 3, 10});
        Check.dueThrown(shell, "f(1)+1/0", new int[] {4, 4, 6, 0, 9});
    }

    /** "0 before any". */
    private static void thrownBeforeAny() {
        SnippetShell shell = new SnippetShell();
        dueThrown(shell, 0, 0, 0, 0, 0);
        Check.type(shell, "1/0");
        dueThrown(shell, 0, 0, 0, 0, 0);
        shell.run();
        dueThrown(shell, 4, 0, 1, 0, 3);
        shell.reset();
        dueThrown(shell, 0, 0, 0, 0, 0);
    }

    /** "OUTSIDE.": below 0 and above 4. */
    private static void thrownOutside() {
        SnippetShell shell = new SnippetShell();
        Check.run(shell, "1/0");
        dueThrown(shell, 4, 0, 1, 0, 3, SnippetShell.OUTSIDE, SnippetShell.OUTSIDE);
        for (int what : FAR) {
            Check.due("thrown(" + what + ")", shell.thrown(what), SnippetShell.OUTSIDE);
        }
    }

    private static SnippetShell withResults() {
        return Check.with("var n", "type t(x,y)", "type one(x)", "5", "n", "t(n,one(3))", "one(-1)");
    }

    /** "What a RESULT is: 0 NOTHING, 1 a WHOLE, 2 a THING. UNKNOWN." */
    private static void kind() {
        SnippetShell shell = withResults();
        int[] want = {SnippetShell.UNKNOWN, 1, 0, 2, 2, SnippetShell.UNKNOWN, SnippetShell.UNKNOWN};
        for (int result = 0; result < want.length; result++) {
            Check.due("kind(" + result + ")", shell.kind(result), want[result]);
        }
        for (int result : FAR) {
            Check.due("kind(" + result + ")", shell.kind(result), SnippetShell.UNKNOWN);
        }
    }

    /** "NullPointerException: there is no such RESULT, or it is NOTHING; ClassCastException: it is a THING." */
    private static void whole() {
        SnippetShell shell = withResults();
        long[] want = {Check.NULL_POINTER, 5, Check.NULL_POINTER, Check.CLASS_CAST, Check.CLASS_CAST, Check.NULL_POINTER, Check.NULL_POINTER};
        for (int result = 0; result < want.length; result++) {
            Check.due("whole(" + result + ")", Check.wholeOrThrown(shell, result), want[result]);
        }
        for (int result : FAR) {
            Check.due("whole(" + result + ")", Check.wholeOrThrown(shell, result), Check.NULL_POINTER);
        }
        Check.dueRun(shell, "type t(x)", 0);
        Check.due("whole of an OLD THING", Check.wholeOrThrown(shell, 3), Check.CLASS_CAST);
    }

    /** "A RESULT that is a WHOLE.": the ends of longs, and what the class answers elsewhere. */
    private static void wholeEnds() {
        SnippetShell shell = Check.with("9223372036854775*1000+807", "$1+1", "0", "-1", "-2", "-4", "-5", "-0");
        long[] want = {Long.MAX_VALUE, Long.MIN_VALUE, 0, -1, -2, -4, -5, 0};
        for (int i = 0; i < want.length; i++) {
            Check.due("whole(" + (i + 1) + ")", Check.wholeOrThrown(shell, i + 1), want[i]);
        }
    }

    /** "0 the NAME of its TYPE, 1 its EDITION, 2 how many FIELDS, 3 whether it is OLD, 4 + i the KIND of VALUE i (.. NONE: there is none)". */
    private static void thing() {
        SnippetShell shell = Check.with("var n", "type t(x,y,z)", "type d(x,y)", "type one(x)", "one(n)", "d(n,1)", "t(1,$1,n)", "type d(x,y)", "d($2,$3)");
        int none = SnippetShell.NONE;
        int t = shell.name('t');
        int d = shell.name('d');
        int one = shell.name(Check.word("one"));
        dueThing(shell, 1, one, 1, 1, 0, 0, none, none);
        dueThing(shell, 2, d, 1, 2, 1, 0, 1, none);
        dueThing(shell, 3, t, 1, 3, 0, 1, 2, 0);
        dueThing(shell, 4, d, 2, 2, 0, 2, 2, none);
    }

    private static void dueThing(SnippetShell shell, int result, int... want) {
        for (int what = 0; what < want.length; what++) {
            Check.due("thing(" + result + ", " + what + ")", shell.thing(result, what), want[what]);
        }
    }

    /** "UNKNOWN: also it is no THING; OUTSIDE (0 .. 6)": UNKNOWN first. */
    private static void thingOutside() {
        SnippetShell shell = withResults();
        Check.due("thing(4, -1)", shell.thing(4, -1), SnippetShell.OUTSIDE);
        Check.due("thing(4, 0)", shell.thing(4, 0), shell.name(Check.word("one")));
        Check.due("thing(4, 6)", shell.thing(4, 6), SnippetShell.NONE);
        Check.due("thing(4, 7)", shell.thing(4, 7), SnippetShell.OUTSIDE);
        for (int far : FAR) {
            Check.due("thing(4, " + far + ")", shell.thing(4, far), SnippetShell.OUTSIDE);
            Check.due("thing(" + far + ", 0)", shell.thing(far, 0), SnippetShell.UNKNOWN);
            Check.due("thing(" + far + ", " + far + ")", shell.thing(far, far), SnippetShell.UNKNOWN);
        }
        for (int result : new int[] {0, 1, 2, 5, 6}) {
            for (int what = -1; what <= 7; what++) {
                Check.due("thing(" + result + ", " + what + ")", shell.thing(result, what), SnippetShell.UNKNOWN);
            }
        }
    }

    /** "3 whether it is OLD": its TYPE is no more, or was declared anew. */
    private static void thingOld() {
        for (String again : new String[] {"var t", "def t()=1", "type t(x)", "type t(y,z)"}) {
            SnippetShell shell = Check.with("type t(x)", "type p(x)", "t(1)", "p($1)");
            Check.due("thing(1, 3)", shell.thing(1, 3), 0);
            Check.dueRun(shell, again + " 1 1", -20 - again.length() - 1);
            Check.due("thing(1, 3) behind a FAULT", shell.thing(1, 3), 0);
            Check.dueRun(shell, "var t=1/0", -204);
            Check.due("thing(1, 3) behind a FAILURE", shell.thing(1, 3), 0);
            Check.dueRun(shell, again, 0);
            dueThing(shell, 1, 0, 1, 1, 1, 1, SnippetShell.NONE, SnippetShell.NONE);
            Check.due("thing(2, 3)", shell.thing(2, 3), 0);
            Check.dueRun(shell, "type t(x)", 0);
            Check.due("thing(1, 3) for ever", shell.thing(1, 3), 1);
        }
    }

    /** "The NAME that eight letters at most tell (from the highest byte of w that is not 0 on): its number". */
    private static void name() {
        String letters = "abcdefgh";
        SnippetShell shell = new SnippetShell();
        for (int count = 1; count <= 8; count++) {
            String name = letters.substring(0, count);
            Check.due("name(" + name + ") ahead of it", shell.name(Check.word(name)), SnippetShell.NONE);
            Check.dueRun(shell, "var " + name, 0);
            Check.due("name(" + name + ")", shell.name(Check.word(name)), count - 1);
        }
        for (int count = 1; count <= 8; count++) {
            Check.due("name() again", shell.name(Check.word(letters.substring(0, count))), count - 1);
        }
        Check.dueRun(shell, "var zzzzzzzz", 0);
        Check.due("name(zzzzzzzz)", shell.name(Check.word("zzzzzzzz")), 8);
    }

    /** "NONE": what was not met, and what is no NAME at all. */
    private static void nameOfNone() {
        SnippetShell shell = Check.with("var a", "var ab", "var abcdefgh");
        String[] others = {"", "b", "ba", "aa", "abc", "bcdefgh", "abcdefg", "abcdefgi", "A", "`", "{", "1", "a ", " a", "var", "def", "type", "$1"};
        for (String other : others) {
            Check.due("name(" + other + ")", shell.name(Check.word(other)), SnippetShell.NONE);
        }
        for (long w : new long[] {0, 1, -1, Long.MIN_VALUE, Long.MAX_VALUE, 0x6100L, 0x61620000L, 0x610062L, 0x6100000000000000L, 0xE1, 0x16100000000L}) {
            Check.due("name(" + w + ")", shell.name(w), SnippetShell.NONE);
        }
        Check.due("name(a)", shell.name('a'), 0);
    }

    /** "Letter i of a NAME; NONE. UNKNOWN." */
    private static void letter() {
        String[] names = {"a", "zy", "abcdefg", "hgfedcba"};
        SnippetShell shell = new SnippetShell();
        for (String name : names) {
            Check.dueRun(shell, "var " + name, 0);
        }
        for (int k = 0; k < names.length; k++) {
            for (int i = 0; i < names[k].length(); i++) {
                Check.due("letter(" + k + ", " + i + ")", shell.letter(k, i), names[k].charAt(i));
            }
            Check.due("letter behind the last", shell.letter(k, names[k].length()), SnippetShell.NONE);
            Check.due("letter(" + k + ", 8)", shell.letter(k, 8), SnippetShell.NONE);
            for (int far : FAR) {
                Check.due("letter(" + k + ", " + far + ")", shell.letter(k, far), SnippetShell.NONE);
            }
        }
        Check.due("letter(4, 0)", shell.letter(4, 0), SnippetShell.UNKNOWN);
        Check.due("letter(4, -1)", shell.letter(4, -1), SnippetShell.UNKNOWN);
        for (int far : FAR) {
            Check.due("letter(" + far + ", 0)", shell.letter(far, 0), SnippetShell.UNKNOWN);
            Check.due("letter(" + far + ", 8)", shell.letter(far, 8), SnippetShell.UNKNOWN);
        }
    }

    private static void dueUnknownNames(SnippetShell shell, ToLongFunction<Integer> call) {
        Check.due("the first NAME: whether it is UNKNOWN", call.applyAsLong(0) == SnippetShell.UNKNOWN ? 1 : 0, 0);
        Check.due("the last NAME: whether it is UNKNOWN", call.applyAsLong(shell.count(2) - 1) == SnippetShell.UNKNOWN ? 1 : 0, 0);
        Check.due("behind the last NAME", call.applyAsLong(shell.count(2)), SnippetShell.UNKNOWN);
        for (int far : FAR) {
            Check.due("of NAME " + far, call.applyAsLong(far), SnippetShell.UNKNOWN);
        }
    }

    /** "What a NAME is: 0 LACKING, 1 a VARIABLE, 2 a MEMBER, 3 a TYPE. UNKNOWN." */
    private static void what() {
        SnippetShell shell = Check.with("var v", "def m(a)=b+a.c+d(1)", "type t(x)");
        String names = "vmabcdtx";
        int[] want = {1, 2, 0, 0, 0, 0, 3, 0};
        for (int i = 0; i < want.length; i++) {
            Check.due("what(" + names.charAt(i) + ")", shell.what(i), want[i]);
        }
        dueUnknownNames(shell, name -> shell.what(name));
        Check.dueRun(shell, "type v(x)", 0);
        Check.due("what(v)", shell.what(0), 3);
        Check.dueRun(shell, "def v(x)=x", 0);
        Check.due("what(v)", shell.what(0), 2);
        Check.dueRun(shell, "var v=1/0", -204);
        Check.due("what(v)", shell.what(0), 2);
        Check.dueRun(shell, "var v=1", 0);
        Check.due("what(v)", shell.what(0), 1);
    }

    /** "The KEPT SNIPPET that declared what a NAME is; NONE. UNKNOWN." */
    private static void by() {
        SnippetShell shell = Check.with("1", "var v", "2", "def m(x)=y", "type t(x)");
        Check.due("by(v)", shell.by(shell.name('v')), 1);
        Check.due("by(m)", shell.by(shell.name('m')), 3);
        Check.due("by(x)", shell.by(shell.name('x')), SnippetShell.NONE);
        Check.due("by(y)", shell.by(shell.name('y')), SnippetShell.NONE);
        Check.due("by(t)", shell.by(shell.name('t')), 4);
        dueUnknownNames(shell, name -> shell.by(name));
        Check.dueRun(shell, "var v=1/0", -204);
        Check.due("by(v)", shell.by(0), 1);
        Check.dueRun(shell, "var v 1", -26);
        Check.due("by(v)", shell.by(0), 1);
        Check.dueRun(shell, "var v=1", 0);
        Check.due("by(v)", shell.by(0), 5);
        SnippetShell zero = Check.with("var a");
        Check.due("by(a): SNIPPET 0", zero.by(0), 0);
    }

    /** "How often a NAME was declared as a TYPE. UNKNOWN." */
    private static void edition() {
        SnippetShell shell = Check.with("var v", "type t(x)");
        Check.due("edition(v)", shell.edition(0), 0);
        Check.due("edition(t)", shell.edition(1), 1);
        Check.due("edition(x)", shell.edition(2), 0);
        dueUnknownNames(shell, name -> shell.edition(name));
        Check.dueRun(shell, "type t(x", -28);
        Check.due("edition(t) behind a FAULT", shell.edition(1), 1);
        Check.dueRun(shell, "type t(x)", 0);
        Check.due("edition(t)", shell.edition(1), 2);
        Check.dueRun(shell, "var t", 0);
        Check.due("edition(t) of what is no TYPE any more", shell.edition(1), 2);
        for (int k = shell.count(0); k < 40; k++) {
            Check.dueRun(shell, "type t(x)", 0);
        }
        Check.due("edition(t)", shell.edition(1), 38);
    }

    private static void dueStates(SnippetShell shell, int... want) {
        int waiting = 0;
        for (int k = 0; k < want.length; k++) {
            Check.due("state(" + k + ")", shell.state(k), want[k]);
            waiting += want[k] == 1 ? 1 : 0;
        }
        Check.due("state behind the last", shell.state(want.length), SnippetShell.UNKNOWN);
        Check.due("count(4)", shell.count(4), waiting);
    }

    /** "2 REPLACED: its NAME was declared again by a later one". */
    private static void stateReplaced() {
        String[] ways = {"var a", "var a=1", "def a()=1", "def a()=nosuch", "type a(x)"};
        for (String first : ways) {
            for (String then : ways) {
                SnippetShell shell = new SnippetShell();
                int alone = first.endsWith("nosuch") ? 1 : 0;
                int later = then.endsWith("nosuch") ? 1 : 0;
                Check.dueRun(shell, first, 0);
                dueStates(shell, alone);
                Check.dueRun(shell, then + " 1 1", -20 - then.length() - 1);
                Check.dueRun(shell, "var a=1/0", -204);
                dueStates(shell, alone);
                Check.dueRun(shell, "var b", 0);
                dueStates(shell, alone, 0);
                Check.dueRun(shell, then, 0);
                dueStates(shell, 2, 0, later);
                Check.dueRun(shell, first, 0);
                dueStates(shell, 2, 0, 2, alone);
            }
        }
        SnippetShell shell = Check.with("1", "1", "$1");
        dueStates(shell, 0, 0, 0);
    }

    /** "1 WAITING: a MEMBER in whose EXPR some NAME that is no ARGUMENT of it (what is called never is one) would be LACKING now". */
    private static void stateWaiting() {
        dueStates(Check.with("def f()=1"), 0);
        dueStates(Check.with("def f(x)=x"), 0);
        dueStates(Check.with("def f(x)=y"), 1);
        dueStates(Check.with("def f(x,y,z)=x+y+z"), 0);
        dueStates(Check.with("def f(x,y,z)=x+y+z+w"), 1);
        dueStates(Check.with("def f(x)=x.y"), 0);
        dueStates(Check.with("def f(x)=$9"), 0);
        dueStates(Check.with("def f(x)=x()"), 1);
        dueStates(Check.with("def f(x)=f(x)"), 0);
        dueStates(Check.with("def f(x)=f"), 1);
        dueStates(Check.with("def f(f)=f"), 0);
        dueStates(Check.with("def f(f)=f(f)"), 0);
        dueStates(Check.with("def f()=0?y:1"), 1);
        dueStates(Check.with("def f()=1", "def g()=f(1,2)"), 0, 0);
        SnippetShell shell = Check.with("def f(x)=a+b(x)");
        dueStates(shell, 1);
        Check.dueRun(shell, "var a", 0);
        dueStates(shell, 1, 0);
        Check.dueRun(shell, "var b", 0);
        dueStates(shell, 1, 0, 0);
        Check.dueRun(shell, "def b(x)=x", 0);
        dueStates(shell, 0, 0, 2, 0);
        Check.dueRun(shell, "type b(x)", 0);
        dueStates(shell, 0, 0, 2, 2, 0);
        Check.dueRun(shell, "def a()=1", 0);
        dueStates(shell, 1, 2, 2, 2, 0, 0);
        Check.dueRun(shell, "type a(x)", 0);
        dueStates(shell, 1, 2, 2, 2, 0, 2, 0);
        Check.dueRun(shell, "var a=1", 0);
        dueStates(shell, 0, 2, 2, 2, 0, 2, 2, 0);
        // a VARIABLE and an EXPR were worked out, a TYPE has no EXPR: they wait for nothing
        shell = Check.with("var a=1", "var c=a", "a", "type t(a)", "def a()=1");
        dueStates(shell, 2, 0, 0, 0, 0);
    }

    /** "STATE of a KEPT SNIPPET. UNKNOWN." */
    private static void stateUnknown() {
        SnippetShell shell = Check.with("1", "var a");
        dueStates(shell, 0, 0);
        for (int far : FAR) {
            Check.due("state(" + far + ")", shell.state(far), SnippetShell.UNKNOWN);
        }
    }

    /** "Sign i of a KEPT SNIPPET's text. ArrayIndexOutOfBoundsException: no such SNIPPET, sign." */
    private static void text() {
        String[] texts = {"1", " var  a = 1 ", "1".repeat(3) + " ".repeat(117), "var a"};
        SnippetShell shell = Check.with(texts);
        Check.run(shell, "1 1");
        Check.run(shell, "1/0");
        Check.type(shell, "12345");
        for (int k = 0; k < texts.length; k++) {
            for (int i = 0; i < texts[k].length(); i++) {
                Check.due("text(" + k + ", " + i + ")", Check.textOrThrown(shell, k, i), texts[k].charAt(i));
            }
            Check.due("text behind the last", Check.textOrThrown(shell, k, texts[k].length()), Check.OUT_OF_BOUNDS);
            for (int far : FAR) {
                Check.due("text(" + k + ", " + far + ")", Check.textOrThrown(shell, k, far), Check.OUT_OF_BOUNDS);
            }
        }
        Check.due("text(4, 0)", Check.textOrThrown(shell, 4, 0), Check.OUT_OF_BOUNDS);
        for (int far : FAR) {
            Check.due("text(" + far + ", 0)", Check.textOrThrown(shell, far, 0), Check.OUT_OF_BOUNDS);
        }
    }

    private static void dueUsers(SnippetShell shell, String name, int... want) {
        int number = shell.name(Check.word(name));
        Check.due("user of " + name + ", -1", shell.user(number, -1), SnippetShell.NONE);
        for (int i = 0; i < want.length; i++) {
            Check.due("user of " + name + ", " + i, shell.user(number, i), want[i]);
        }
        Check.due("user of " + name + " behind the last", shell.user(number, want.length), SnippetShell.NONE);
    }

    /** "The i-th MEMBER by SNIPPETS, not REPLACED, that USES a NAME: its SNIPPET; NONE. UNKNOWN." */
    private static void user() {
        SnippetShell shell = Check.with("def f()=a", "def g()=a", "1", "def h()=a+a", "var b");
        dueUsers(shell, "a", 0, 1, 3);
        dueUsers(shell, "b");
        for (int far : FAR) {
            Check.due("user(a, " + far + ")", shell.user(1, far), SnippetShell.NONE);
            Check.due("user(" + far + ", " + far + ")", shell.user(far, far), SnippetShell.UNKNOWN);
        }
        dueUnknownNames(shell, name -> shell.user(name, 0));
        Check.dueRun(shell, "def g()=1", 0);
        dueUsers(shell, "a", 0, 3);
        Check.dueRun(shell, "def g()=a", 0);
        dueUsers(shell, "a", 0, 3, 6);
        Check.dueRun(shell, "var f", 0);
        dueUsers(shell, "a", 3, 6);
        Check.dueRun(shell, "var a", 0);
        dueUsers(shell, "a", 3, 6);
        for (int k = shell.count(0); k < 40; k++) {
            Check.dueRun(shell, "def m" + (char) ('a' + k / 26) + (char) ('a' + k % 26) + "()=a", 0);
        }
        Check.due("user(a, 32): the last of 40 SNIPPETS", shell.user(1, 32), 39);
        Check.due("user(a, 33)", shell.user(1, 33), SnippetShell.NONE);
    }

    /** "A MEMBER USES each such NAME (FIELDS do not count)." */
    private static void uses() {
        SnippetShell shell = Check.with("def f(x)=x+y+z(w)+x.v", "type t(y)", "var u=1", "u");
        dueUsers(shell, "x");
        dueUsers(shell, "y", 0);
        dueUsers(shell, "z", 0);
        dueUsers(shell, "w", 0);
        dueUsers(shell, "v");
        dueUsers(shell, "f");
        dueUsers(shell, "t");
        dueUsers(shell, "u");
        Check.dueRun(shell, "def g(x)=x(x)+v.v+0?y:g(1)", 0);
        dueUsers(shell, "x", 4);
        dueUsers(shell, "v", 4);
        dueUsers(shell, "y", 0, 4);
        dueUsers(shell, "g", 4);
        Check.dueRun(shell, "def g()=y", 0);
        dueUsers(shell, "x");
        dueUsers(shell, "v");
        dueUsers(shell, "y", 0, 5);
        dueUsers(shell, "g");
    }

    private static void dueCounts(SnippetShell shell, int... want) {
        for (int what = 0; what < want.length; what++) {
            Check.due("count(" + what + ")", shell.count(what), want[what]);
        }
    }

    /** "0 KEPT SNIPPETS, 1 RESULTS, 2 NAMES, 3 signs of THE TEXT, 4 SNIPPETS that WAIT, 5 .. , 6 STEPS in all. OUTSIDE." */
    private static void count() {
        SnippetShell shell = new SnippetShell();
        dueCounts(shell, 0, 0, 0, 0, 0, 0, 0, SnippetShell.OUTSIDE);
        Check.type(shell, "def f()=a+b");
        dueCounts(shell, 0, 0, 0, 11, 0, 0, 0, SnippetShell.OUTSIDE);
        shell.run();
        dueCounts(shell, 1, 0, 3, 0, 1, 0, 0, SnippetShell.OUTSIDE);
        Check.dueRun(shell, "f()", -201);
        dueCounts(shell, 1, 0, 3, 0, 1, 0, 3, SnippetShell.OUTSIDE);
        Check.dueRun(shell, "def g()=a", 0);
        dueCounts(shell, 2, 0, 4, 0, 2, 0, 3, SnippetShell.OUTSIDE);
        Check.dueRun(shell, "var a=1", 0);
        dueCounts(shell, 3, 0, 4, 0, 1, 0, 4, SnippetShell.OUTSIDE);
        Check.dueRun(shell, "g()", 1);
        dueCounts(shell, 4, 1, 4, 0, 1, 0, 6, SnippetShell.OUTSIDE);
        Check.dueRun(shell, "def f()=1", 0);
        dueCounts(shell, 5, 1, 4, 0, 0, 0, 6, SnippetShell.OUTSIDE);
        Check.dueRun(shell, "1 1", -22);
        dueCounts(shell, 5, 1, 4, 0, 0, 0, 6, SnippetShell.OUTSIDE);
        for (int far : FAR) {
            Check.due("count(" + far + ")", shell.count(far), SnippetShell.OUTSIDE);
        }
    }

    /** "5 RESULTS that are OLD THINGS": not those that hold one, nor VARIABLES. */
    private static void countOld() {
        SnippetShell shell = Check.with("type t(x)", "type p(x)", "t(1)", "p($1)", "var a=t(1)", "5", "var n", "n");
        Check.due("count(5)", shell.count(5), 0);
        Check.dueRun(shell, "type t(x)", 0);
        Check.due("count(5)", shell.count(5), 1);
        Check.dueRun(shell, "$1", 5);
        Check.due("count(5): a THING that is two RESULTS", shell.count(5), 2);
        Check.dueRun(shell, "t(1)", 6);
        Check.due("count(5)", shell.count(5), 2);
        Check.dueRun(shell, "var p", 0);
        Check.due("count(5)", shell.count(5), 3);
        Check.dueRun(shell, "var t", 0);
        Check.due("count(5)", shell.count(5), 4);
        Check.dueRun(shell, "type t(x)", 0);
        Check.due("count(5)", shell.count(5), 4);
    }

    /** "Refused, and nothing changes": nor does anything that is only asked for. */
    private static void nothingChanges() {
        Consumer<SnippetShell> story = shell -> {
            for (String text : new String[] {"type t(x)", "var a=t(1)", "t(a)", "type t(x,y)", "def f(x)=nosuch+a", "7", "1/0"}) {
                Check.run(shell, text);
            }
            Check.type(shell, "a=a");
        };
        int unknown = SnippetShell.UNKNOWN;
        int outside = SnippetShell.OUTSIDE;
        int none = SnippetShell.NONE;
        for (int no : new int[] {-1, 40, 41, Integer.MIN_VALUE, Integer.MAX_VALUE}) {
            Unchanged.due("thrown(" + no + ")", story, shell -> shell.thrown(no), outside);
            Unchanged.due("kind(" + no + ")", story, shell -> shell.kind(no), unknown);
            Unchanged.due("whole(" + no + ")", story, shell -> Check.wholeOrThrown(shell, no), Check.NULL_POINTER);
            Unchanged.due("thing(" + no + ", 0)", story, shell -> shell.thing(no, 0), unknown);
            Unchanged.due("thing(1, " + no + ")", story, shell -> shell.thing(1, no), outside);
            Unchanged.due("name(" + no + ")", story, shell -> shell.name(no), none);
            Unchanged.due("letter(" + no + ", 0)", story, shell -> shell.letter(no, 0), unknown);
            Unchanged.due("letter(0, " + no + ")", story, shell -> shell.letter(0, no), none);
            Unchanged.due("what(" + no + ")", story, shell -> shell.what(no), unknown);
            Unchanged.due("by(" + no + ")", story, shell -> shell.by(no), unknown);
            Unchanged.due("edition(" + no + ")", story, shell -> shell.edition(no), unknown);
            Unchanged.due("state(" + no + ")", story, shell -> shell.state(no), unknown);
            Unchanged.due("text(" + no + ", 0)", story, shell -> Check.textOrThrown(shell, no, 0), Check.OUT_OF_BOUNDS);
            Unchanged.due("text(0, " + no + ")", story, shell -> Check.textOrThrown(shell, 0, no), Check.OUT_OF_BOUNDS);
            Unchanged.due("user(" + no + ", 0)", story, shell -> shell.user(no, 0), unknown);
            Unchanged.due("user(0, " + no + ")", story, shell -> shell.user(0, no), none);
            Unchanged.due("count(" + no + ")", story, shell -> shell.count(no), outside);
        }
        Unchanged.due("whole of a THING", story, shell -> Check.wholeOrThrown(shell, 1), Check.CLASS_CAST);
        Unchanged.due("thing of a WHOLE", story, shell -> shell.thing(2, 0), unknown);
        Unchanged.due("whole(2)", story, shell -> Check.wholeOrThrown(shell, 2), 7);
        Unchanged.due("thing(1, 3)", story, shell -> shell.thing(1, 3), 1);
        Unchanged.due("name(t)", story, shell -> shell.name('t'), 0);
        Unchanged.due("name(new)", story, shell -> shell.name(Check.word("new")), none);
        Unchanged.due("state(4)", story, shell -> shell.state(4), 1);
        Unchanged.due("user(a, 0)", story, shell -> shell.user(2, 0), 4);
        Unchanged.due("count(4)", story, shell -> shell.count(4), 1);
        Unchanged.due("count(5)", story, shell -> shell.count(5), 1);
    }
}
