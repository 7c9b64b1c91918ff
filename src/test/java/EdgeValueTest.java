/**
 * The document's sentences on VALUES, and on how an EXPR is worked out: at each edge, one below it
 * and one above it. The comments are the sentences.
 */
public final class EdgeValueTest {
    private static final long MAX = Long.MAX_VALUE;
    private static final long MIN = Long.MIN_VALUE;

    public static void main(String[] args) {
        wrapping();
        dividing();
        tests();
        thingsAlike();
        choices();
        nothing();
        fieldsOfThings();
        argumentsAndVariables();
        whatIsThereWhenTheyRun();
        fromLeftToRight();
        levels();
        Check.end();
    }

    /** MAX is RESULT 1, MIN is RESULT 2. */
    private static SnippetShell withEnds() {
        return Check.with("9223372036854775*1000+807", "-9223372036854775*1000-808");
    }

    /** "WHOLE (longs that wrap)". */
    private static void wrapping() {
        SnippetShell shell = withEnds();
        Check.dueWhole(shell, "$1", MAX);
        Check.dueWhole(shell, "$2", MIN);
        Check.dueWhole(shell, "$1-1", MAX - 1);
        Check.dueWhole(shell, "$1+0", MAX);
        Check.dueWhole(shell, "$1+1", MIN);
        Check.dueWhole(shell, "$1+2", MIN + 1);
        Check.dueWhole(shell, "$2+1", MIN + 1);
        Check.dueWhole(shell, "$2-1", MAX);
        Check.dueWhole(shell, "$2-2", MAX - 1);
        Check.dueWhole(shell, "-$1", MIN + 1);
        Check.dueWhole(shell, "-$2", MIN);
        Check.dueWhole(shell, "--$2", MIN);
        Check.dueWhole(shell, "-($2+1)", MAX);
        Check.dueWhole(shell, "0-$2", MIN);
        Check.dueWhole(shell, "$1*1", MAX);
        Check.dueWhole(shell, "$1*2", -2);
        Check.dueWhole(shell, "$2*2", 0);
        Check.dueWhole(shell, "$2*-1", MIN);
        Check.dueWhole(shell, "$1*$1", 1);
        Check.dueWhole(shell, "$2+$2", 0);
        Check.dueWhole(shell, "$1+$2", -1);
        Check.dueWhole(shell, "4294967296*2147483648", MIN);
        Check.dueWhole(shell, "4294967296*2147483647", MAX - 4294967295L);
        Check.dueWhole(shell, "2147483647+1", 2147483648L);
        Check.dueWhole(shell, "-0", 0);
    }

    /** "/ and % as the machine's". */
    private static void dividing() {
        SnippetShell shell = withEnds();
        int[] tops = {7, -7, 1, -1, 0};
        int[] bottoms = {2, -2, 7, -8};
        for (int top : tops) {
            for (int bottom : bottoms) {
                shell = withEnds();
                Check.dueWhole(shell, top + "/" + bottom, top / bottom);
                Check.dueWhole(shell, top + "%" + bottom, top % bottom);
            }
        }
        Check.dueWhole(shell, "$2/-1", MIN);
        Check.dueWhole(shell, "$2%-1", 0);
        Check.dueWhole(shell, "$2/1", MIN);
        Check.dueWhole(shell, "$1/-1", MIN + 1);
        Check.dueWhole(shell, "$2/$2", 1);
        Check.dueWhole(shell, "$2/$1", -1);
        Check.dueWhole(shell, "$2%$1", -1);
        Check.dueWhole(shell, "$1%$2", MAX);
        Check.dueWhole(shell, "$1/$2", 0);
    }

    /** "< and = are 1 or 0". */
    private static void tests() {
        SnippetShell shell = withEnds();
        Check.dueWhole(shell, "4<5", 1);
        Check.dueWhole(shell, "5<5", 0);
        Check.dueWhole(shell, "6<5", 0);
        Check.dueWhole(shell, "4=5", 0);
        Check.dueWhole(shell, "5=5", 1);
        Check.dueWhole(shell, "6=5", 0);
        Check.dueWhole(shell, "-1<0", 1);
        Check.dueWhole(shell, "0<-1", 0);
        Check.dueWhole(shell, "$2<$1", 1);
        Check.dueWhole(shell, "$1<$2", 0);
        Check.dueWhole(shell, "$1=$2", 0);
        Check.dueWhole(shell, "$1+1=$2", 1);
        Check.dueWhole(shell, "4294967296=0", 0);
        Check.dueWhole(shell, "0<4294967296", 1);
    }

    /** "= of THINGS: whether they are the same one": of old ones too. */
    private static void thingsAlike() {
        SnippetShell shell = Check.with("type t(x)", "type p(x)", "var a=t(1)", "var b=t(1)", "var c=a", "def f(x)=x", "t(a)");
        Check.dueWhole(shell, "a=a", 1);
        Check.dueWhole(shell, "a=b", 0);
        Check.dueWhole(shell, "a=c", 1);
        Check.dueWhole(shell, "f(a)=c", 1);
        Check.dueWhole(shell, "$1.x=a", 1);
        Check.dueWhole(shell, "$1=a", 0);
        Check.dueWhole(shell, "$1=$1", 1);
        Check.dueWhole(shell, "p(1)=a", 0);
        Check.dueWhole(shell, "t(1)=t(1)", 0);
        Check.dueRun(shell, "type t(x)", 0);
        Check.dueWhole(shell, "a=c", 1);
        Check.dueWhole(shell, "a=b", 0);
        Check.dueWhole(shell, "t(1)=a", 0);
        Check.dueRun(shell, "var a=t(1)+1", -203);
        Check.dueWhole(shell, "a=c", 1);
    }

    /** "the first EXPR behind it, if what is ahead is not 0, else the other one (.. not worked out)". */
    private static void choices() {
        SnippetShell shell = withEnds();
        Check.dueWhole(shell, "-1?2:3", 2);
        Check.dueWhole(shell, "0?2:3", 3);
        Check.dueWhole(shell, "1?2:3", 2);
        Check.dueWhole(shell, "$1?2:3", 2);
        Check.dueWhole(shell, "$2?2:3", 2);
        Check.dueWhole(shell, "4294967296?2:3", 2);
        Check.dueWhole(shell, "0?1/0:5", 5);
        Check.dueWhole(shell, "1?5:1/0", 5);
        Check.dueWhole(shell, "1?5:nosuch(nosuch)", 5);
        Check.due("STEPS: what is not taken has none", shell.thrown(4), 3);
        Check.dueFailure(shell, "0?5:1/0", 4, 5);
        Check.dueFailure(shell, "1?1/0:5", 4, 3);
        Check.dueWhole(shell, "0?1:0?2:0?3:4", 4);
        Check.dueWhole(shell, "1?0?1:2:3", 2);
        Check.dueWhole(shell, "0?1:2<3", 1);
        Check.dueWhole(shell, "1<0?1:2+3", 5);
    }

    /** "NOTHING (of a VARIABLE without one)". */
    private static void nothing() {
        SnippetShell shell = Check.with("var n", "n", "var m=n", "m", "def f(x)=x", "f(n)", "type t(x)", "var a=t(n)", "a.x", "1?n:2", "var n=0", "n");
        for (int result = 1; result <= 5; result++) {
            Check.due("kind(" + result + ")", shell.kind(result), 0);
        }
        Check.due("kind(6)", shell.kind(6), 1);
        Check.dueRun(shell, "m", 7);
        Check.due("kind(7)", shell.kind(7), 0);
        Check.dueRun(shell, "var n", 0);
        Check.dueRun(shell, "n", 8);
        Check.due("kind(8): a VARIABLE that is declared anew without one", shell.kind(8), 0);
    }

    /** "THINGS (of a TYPE and its EDITION, with a VALUE for each of its FIELDS)": one to three. */
    private static void fieldsOfThings() {
        SnippetShell shell = Check.with("type s(a)", "type d(a,b)", "type t(a,b,c)");
        Check.dueWhole(shell, "s(1).a", 1);
        Check.dueWhole(shell, "d(1,2).a", 1);
        Check.dueWhole(shell, "d(1,2).b", 2);
        Check.dueWhole(shell, "t(1,2,3).a", 1);
        Check.dueWhole(shell, "t(1,2,3).b", 2);
        Check.dueWhole(shell, "t(1,2,3).c", 3);
        Check.dueFailure(shell, "s(1).b", 6, 4);
        Check.dueFailure(shell, "d(1,2).c", 6, 6);
        Check.dueFailure(shell, "t(1,2,3).d", 6, 8);
        Check.dueWhole(shell, "t(1,t(2,3,t(4,5,6)),7).b.c.b", 5);
    }

    /** "the ARGUMENT so called, if the EXPR is that of a MEMBER which has such a one; else the VARIABLE". */
    private static void argumentsAndVariables() {
        SnippetShell shell = Check.with("var a=100", "var b=200", "def f(a)=a*10+b", "def g(b)=f(b)+a", "def h()=a+b", "def k(a,b)=h()+a-b");
        Check.dueWhole(shell, "f(1)", 210);
        Check.dueWhole(shell, "g(1)", 310);
        Check.dueWhole(shell, "h()", 300);
        Check.dueWhole(shell, "k(7,5)", 302);
        Check.dueWhole(shell, "f(a)+a", 1300);
        Check.dueWhole(shell, "k(f(1),g(2))", 190);
        Check.dueRun(shell, "def a(a)=a<1?0:a(a-1)+a", 0);
        Check.dueWhole(shell, "a(3)", 6);
        Check.dueFailure(shell, "a", 1, 0);
        Check.dueRun(shell, "def last(x,y,z)=x*100+y*10+z", 0);
        Check.dueWhole(shell, "last(1,2,3)", 123);
        Check.dueWhole(shell, "last(last(0,0,1),last(0,0,2),last(0,0,3))", 123);
    }

    /** "What a NAME is declared as takes the place of what it was"; members find what is there when they run. */
    private static void whatIsThereWhenTheyRun() {
        SnippetShell shell = Check.with("def f()=g(2)", "def g(x)=x", "f()", "def g(x)=x*5", "f()", "type g(x)", "f().x");
        Check.due("whole(1)", Check.wholeOrThrown(shell, 1), 2);
        Check.due("whole(2)", Check.wholeOrThrown(shell, 2), 10);
        Check.due("whole(3)", Check.wholeOrThrown(shell, 3), 2);
        Check.dueRun(shell, "var g=1", 0);
        Check.dueThrown(shell, "f()", new int[] {1, 0, 8, 1});
        Check.dueRun(shell, "var g=g+1", 0);
        Check.dueWhole(shell, "g", 2);
        Check.dueRun(shell, "def r()=$1+$4", 0);
        Check.dueWhole(shell, "r()", 4);
    }

    /** "then its parts from left to right, then itself": the first that fails is told. */
    private static void fromLeftToRight() {
        SnippetShell shell = Check.with("type t(x,y,z)", "def f(x,y,z)=1");
        for (String sign : "+-*/%<=".split("")) {
            Check.dueFailure(shell, "$8 " + sign + " nosuch", 1, 0);
            Check.dueFailure(shell, "1 " + sign + " $8", 1, 4);
        }
        Check.dueFailure(shell, "f(a,b,c)", 1, 2);
        Check.dueFailure(shell, "f(1,b,c)", 1, 4);
        Check.dueFailure(shell, "f(1,2,c)", 1, 6);
        Check.dueFailure(shell, "t(1,2,c)", 1, 6);
        Check.dueFailure(shell, "t(1,b,c)", 1, 4);
        Check.dueFailure(shell, "-(1/0)", 4, 3);
        Check.dueFailure(shell, "(1/0).x", 4, 2);
        Check.dueFailure(shell, "1/0?a:b", 4, 1);
        Check.dueFailure(shell, "1/0 + 1/0", 4, 1);
        Check.dueFailure(shell, "1/1 + 1/0", 4, 7);
        Check.dueFailure(shell, "1/0/0", 4, 1);
        Check.dueFailure(shell, "1/1/0", 4, 3);
    }

    /** "SUM = PROD { + PROD | - PROD }. PROD = FACT { * FACT | / FACT | % FACT }": from left to right. */
    private static void levels() {
        SnippetShell shell = new SnippetShell();
        Check.dueWhole(shell, "2+3*4", 14);
        Check.dueWhole(shell, "2*3+4", 10);
        Check.dueWhole(shell, "(2+3)*4", 20);
        Check.dueWhole(shell, "10-3-2", 5);
        Check.dueWhole(shell, "10-3+2", 9);
        Check.dueWhole(shell, "10-(3-2)", 9);
        Check.dueWhole(shell, "100/10/5", 2);
        Check.dueWhole(shell, "100/10*5", 50);
        Check.dueWhole(shell, "100%7*3", 6);
        Check.dueWhole(shell, "3*100%7", 6);
        Check.dueWhole(shell, "-2*3", -6);
        Check.dueWhole(shell, "2*-3", -6);
        Check.dueWhole(shell, "-2-3", -5);
        Check.dueWhole(shell, "1+1<2+1", 1);
        Check.dueWhole(shell, "1=1?2:3", 2);
        Check.dueWhole(shell, "-7/2", -3);
        Check.dueWhole(shell, "-(7/2)", -3);
        Check.dueWhole(shell, "-7%4", -3);
        Check.dueRun(shell, "type t(x)", 0);
        Check.dueWhole(shell, "-t(4).x", -4);
        Check.dueWhole(shell, "10-t(4).x", 6);
        Check.dueWhole(shell, "10-t(t(4)).x.x-t(3).x", 3);
        Check.dueWhole(shell, "10-(1?2:3)-(0?4:5)", 3);
        Check.dueWhole(shell, "10- -3-(-4)", 17);
    }
}
