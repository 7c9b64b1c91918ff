/**
 * The document's sentences on THE TEXT and its TOKENS, and promises 2 signs and 17 erase: at each
 * edge, one below it and one above it. The comments are the sentences.
 */
public final class EdgeTextTest {
    private static final String SINGLE_SIGNS = "+-*/%<=?:(),.";

    public static void main(String[] args) {
        everySign();
        wrongSignAtEachByte();
        upToEight();
        bytesZero();
        hundredAndTwenty();
        outsideAheadOfFull();
        longestTextIsRun();
        lettersOfNames();
        rowsOfLetters();
        digitsOfNumbers();
        digitsOfResults();
        signsThatAreTokens();
        blanks();
        words();
        erase();
        Check.end();
    }

    private static String ones(int count) {
        return "1".repeat(count);
    }

    /** "THE TEXT has signs 32 .. 126"; "OUTSIDE: a sign is none (none comes)". */
    private static void everySign() {
        for (int sign = 1; sign < 256; sign++) {
            long w = sign;
            if (sign >= 32 && sign <= 126) {
                Check.due("signs(" + sign + ")", new SnippetShell().signs(w), 1);
            } else {
                Check.due("signs(" + sign + ")", new SnippetShell().signs(w), SnippetShell.OUTSIDE);
            }
        }
        for (long w : new long[] {31, 127, 128, 255, 1}) {
            Unchanged.due("signs(" + w + ")", shell -> Check.type(shell, "1+2"), shell -> shell.signs(w), SnippetShell.OUTSIDE);
        }
    }

    /** "OUTSIDE: a sign is none (none comes)": wherever it stands among the eight. */
    private static void wrongSignAtEachByte() {
        long eight = Check.word("11111111");
        for (int shift = 0; shift < 64; shift += 8) {
            for (long sign : new long[] {31, 127, 128, 255}) {
                long w = eight & ~(255L << shift) | sign << shift;
                Unchanged.due("signs(" + w + ")", shell -> Check.type(shell, "23"), shell -> shell.signs(w), SnippetShell.OUTSIDE);
            }
            for (long sign : new long[] {32, 126}) {
                long w = eight & ~(255L << shift) | sign << shift;
                Check.due("signs(" + w + ")", new SnippetShell().signs(w), 8);
            }
        }
    }

    /** "Up to eight signs more, from the highest byte of w that is not 0 on: how long THE TEXT is". */
    private static void upToEight() {
        for (int count = 0; count <= 8; count++) {
            String signs = "12345678".substring(0, count);
            SnippetShell shell = new SnippetShell();
            Check.due("signs of " + count, shell.signs(Check.word(signs)), count);
            Check.due("signs of " + count + " more", shell.signs(Check.word(signs)), 2 * count);
            Check.due("count(3)", shell.count(3), 2 * count);
            Check.due("run()", shell.run(), count == 0 ? -20 : 1);
            if (count > 0) {
                Check.due("whole(1)", Check.wholeOrThrown(shell, 1), Long.parseLong(signs + signs));
            }
        }
    }

    /** "(bytes 0 are none)": above, between and below the signs. */
    private static void bytesZero() {
        Unchanged.due("signs(0)", shell -> { }, shell -> shell.signs(0), 0);
        Unchanged.due("signs(0)", shell -> Check.type(shell, "12345"), shell -> shell.signs(0), 5);
        long[] words = {0x3137L, 0x310037L, 0x31370000L, 0x3100000000000037L, 0x3137000000000000L, 0x0031000000003700L};
        for (long w : words) {
            SnippetShell shell = new SnippetShell();
            Check.due("signs(" + w + ")", shell.signs(w), 2);
            Check.due("run()", shell.run(), 1);
            Check.due("signs(" + w + ") are 17", Check.wholeOrThrown(shell, 1), 17);
            Check.due("text(0, 1)", Check.textOrThrown(shell, 0, 1), '7');
            Check.due("text(0, 2)", Check.textOrThrown(shell, 0, 2), Check.OUT_OF_BOUNDS);
        }
    }

    /** "120 at most"; "FULL (none comes)": for each length that is near, and each number of signs. */
    private static void hundredAndTwenty() {
        for (int length = 111; length <= 120; length++) {
            int before = length;
            for (int more = 0; more <= 8; more++) {
                long w = Check.word(ones(more));
                if (length + more <= 120) {
                    SnippetShell shell = new SnippetShell();
                    Check.type(shell, ones(length));
                    Check.due(more + " signs behind " + length, shell.signs(w), length + more);
                    Check.due("count(3)", shell.count(3), length + more);
                } else {
                    Unchanged.due(more + " signs behind " + length, shell -> Check.type(shell, ones(before)),
                        shell -> shell.signs(w), SnippetShell.FULL);
                }
            }
        }
    }

    /** "UNKNOWN, OUTSIDE, FULL: the first of these that fits". */
    private static void outsideAheadOfFull() {
        Unchanged.due("a wrong sign with 120", shell -> Check.type(shell, ones(120)), shell -> shell.signs(31), SnippetShell.OUTSIDE);
        Unchanged.due("signs, then a wrong one, with 119", shell -> Check.type(shell, ones(119)),
            shell -> shell.signs(Check.word("11") << 8 | 127), SnippetShell.OUTSIDE);
    }

    /** "120 at most": all of them are run and KEPT. */
    private static void longestTextIsRun() {
        SnippetShell shell = new SnippetShell();
        Check.dueRun(shell, " ".repeat(119) + "7", 1);
        Check.due("whole(1)", Check.wholeOrThrown(shell, 1), 7);
        Check.due("text(0, 118)", Check.textOrThrown(shell, 0, 118), ' ');
        Check.due("text(0, 119)", Check.textOrThrown(shell, 0, 119), '7');
        Check.due("text(0, 120)", Check.textOrThrown(shell, 0, 120), Check.OUT_OF_BOUNDS);
        Check.dueFault(" ".repeat(119) + "@", 119);
        Check.dueFault(" ".repeat(118) + "7+", 120);
        Check.dueFault(" ".repeat(117) + "7+", 119);
        Check.dueFault(" ".repeat(120), 120);
        Check.dueFault(" ".repeat(119), 119);
    }

    /** "a NAME: 1 to 8 letters a .. z". */
    private static void lettersOfNames() {
        for (int sign = 33; sign <= 126; sign++) {
            boolean letter = sign >= 'a' && sign <= 'z';
            String text = "var " + (char) sign;
            Check.due("run of '" + text + "'", Check.run(new SnippetShell(), text), letter ? 0 : -24);
        }
        for (int count = 1; count <= 8; count++) {
            String name = "zyxwvuta".substring(8 - count);
            SnippetShell shell = Check.with("var " + name + " = 5");
            Check.due("name(" + name + ")", shell.name(Check.word(name)), 0);
            Check.due("letter behind the last of " + name, shell.letter(0, count), SnippetShell.NONE);
            Check.dueWhole(shell, name, 5);
        }
        Check.dueFault("var", 3);
        Check.dueFault("var = 5", 4);
    }

    /** "of a row of letters or digits that is too long .. where that begins": letters. */
    private static void rowsOfLetters() {
        for (int count : new int[] {9, 10, 16, 100, 116}) {
            Check.dueFault("var " + "a".repeat(count), 4);
            Check.dueFault("1+ " + "b".repeat(count), 3);
        }
        Check.dueFault("abcdefghi", 0);
        Check.dueFault("a.abcdefghi", 2);
        Check.dueFault("def f(abcdefghi) = 1", 6);
        Check.dueFault("type t(a,abcdefghi)", 9);
        Check.dueFault("abcdefghi(1)", 0);
        Check.dueFault("xxxxxxvar", 0);
        Check.dueFault("aaaaaaaavar a", 0);
        Check.dueRun(new SnippetShell(), "abcdefgh.abcdefgh", -201);
        Check.dueRun(new SnippetShell(), "type abcdefgh(abcdefgh)", 0);
    }

    /** "a NUMBER: 1 to 18 digits"; a row of digits that is too long, where that begins. */
    private static void digitsOfNumbers() {
        SnippetShell shell = new SnippetShell();
        for (int count = 1; count <= 18; count++) {
            Check.dueWhole(shell, "9".repeat(count), Long.parseLong("9".repeat(count)));
            Check.dueWhole(shell, "0".repeat(count), 0);
        }
        for (int count : new int[] {19, 20, 64, 117}) {
            Check.dueFault("1+ " + "9".repeat(count), 3);
            Check.dueFault("0".repeat(count), 0);
        }
        Check.dueFault("0000000000000000001", 0);
        Check.dueFault("1/:", 2);
    }

    /** "a RESULT: $ and 1 to 3 digits"; "or $ without digits, where that begins". */
    private static void digitsOfResults() {
        SnippetShell shell = Check.with("77");
        Check.dueWhole(shell, "$1", 77);
        Check.dueWhole(shell, "$01", 77);
        Check.dueWhole(shell, "$001", 77);
        Check.dueFault("$0001", 0);
        Check.dueFault("$00001", 0);
        Check.dueFault("$1234567890123456789", 0);
        Check.dueFault("$", 0);
        Check.dueFault("1 + $", 4);
        Check.dueFault("1 + $ 1", 4);
        Check.dueFault("1 + $a", 4);
        Check.dueFault("$$1", 0);
        Check.dueRun(shell, "$999", -201);
        Check.dueFault("$1$1", 2);
    }

    /** "+ - * / % < = ? : ( ) , . each": each is a TOKEN of one sign, and no other sign is. */
    private static void signsThatAreTokens() {
        for (int sign = 33; sign <= 126; sign++) {
            boolean other = SINGLE_SIGNS.indexOf(sign) < 0 && sign != '$' && !Character.isLetterOrDigit(sign);
            if (other || sign >= 'A' && sign <= 'Z') {
                Check.dueFault("1" + (char) sign, 1);
                Check.dueFault("1+" + (char) sign, 2);
                Check.dueFault(" " + (char) sign, 1);
            }
        }
        for (String sign : "+-*/%<=?".split("")) {
            Check.dueFault("1" + sign, 2);
        }
        for (String sign : ":(),".split("")) {
            Check.dueFault("1" + sign, 1);
        }
        Check.dueFault("1.", 2);
        Check.dueFault("1<=2", 2);
        Check.dueFault("1==2", 2);
        Check.dueFault("1**2", 2);
        Check.dueFault("1//2", 2);
        Check.dueWhole(new SnippetShell(), "1--2", 3);
        Check.dueWhole(new SnippetShell(), "1---2", -1);
    }

    /** "blanks (32) may stand between". */
    private static void blanks() {
        Check.dueWhole(new SnippetShell(), "1<2?3+4:-5", 7);
        Check.dueWhole(new SnippetShell(), "  1  <  2  ?  3  +  4  :  -  5  ", 7);
        SnippetShell shell = Check.with("type t(x)", " def  f ( x , y )  =  x . x + y ");
        Check.dueWhole(shell, "f(t(3),4)", 7);
        Check.dueWhole(shell, " f ( t ( 3 ) , 4 ) ", 7);
        Check.dueFault("1 2", 2);
        Check.dueFault("a b", 2);
        Check.dueFault("va r a", 3);
        Check.dueRun(new SnippetShell(), "vara", -201);
        Check.dueRun(new SnippetShell(), "var a", 0);
        Check.dueRun(new SnippetShell(), "var a=1=2", 0);
        Check.dueFault("", 0);
        Check.dueFault(" ", 1);
        Check.dueFault("  ", 2);
    }

    /** "var, def, type are words, no NAMES". */
    private static void words() {
        for (String word : new String[] {"var", "def", "type"}) {
            Check.dueFault("var " + word, 4);
            Check.dueFault("def " + word + "() = 1", 4);
            Check.dueFault("type " + word + "(a)", 5);
            Check.dueFault("def f(" + word + ") = 1", 6);
            Check.dueFault("type t(" + word + ")", 7);
            Check.dueFault("1 + " + word, 4);
            Check.dueFault("1 + " + word + "(1)", 4);
            Check.dueFault("a." + word, 2);
            Check.dueFault("1 " + word, 2);
            Check.dueFault(word, word.length());
            Check.due("name(" + word + ")", new SnippetShell().name(Check.word(word)), SnippetShell.NONE);
            for (String name : new String[] {word + "a", "a" + word, word.substring(1), word.substring(0, word.length() - 1)}) {
                Check.dueWhole(Check.with("var " + name + " = 3"), name, 3);
            }
        }
    }

    /** "THE TEXT is empty: how long it was". */
    private static void erase() {
        Unchanged.due("erase() of an empty text", shell -> Check.run(shell, "var a"), shell -> shell.erase(), 0);
        for (int length : new int[] {0, 1, 8, 119, 120}) {
            SnippetShell shell = Check.with("var a = 1 + 1", "a");
            Check.run(shell, "1 / 0");
            Check.type(shell, ones(length));
            Check.due("erase()", shell.erase(), length);
            Check.due("erase() again", shell.erase(), 0);
            Check.due("count(3)", shell.count(3), 0);
            Check.due("count(0) is as it was", shell.count(0), 2);
            Check.due("count(6) is as it was", shell.count(6), 7);
            Check.due("thrown(0) is as it was", shell.thrown(0), 4);
            Check.due("signs()", shell.signs('a'), 1);
            Check.due("run()", shell.run(), 2);
            Check.due("whole(2)", Check.wholeOrThrown(shell, 2), 2);
        }
    }
}
