import java.util.ArrayList;
import java.util.List;

/**
 * The document once more, written with the whole of Java and with other means (trees that are
 * walked, exceptions, lists), so that AgainstPlainShellTest can ask both the same.
 */
final class PlainShell {
    private static final class Stop extends RuntimeException {
        private static final long serialVersionUID = 1L;
        final int place;

        Stop(int place) {
            this.place = place;
        }
    }

    private static final class Failure extends RuntimeException {
        private static final long serialVersionUID = 1L;
        final int failure;
        final Snippet snippet;
        final int place;
        final int depth;

        Failure(int failure, Frame frame, Node node) {
            this.failure = failure;
            this.snippet = frame.snippet;
            this.place = node.place;
            this.depth = frame.depth;
        }
    }

    /** op: "num", "res", "name", "call", "neg", "field", "?" or the sign of an operator. */
    private record Node(String op, int place, String word, List<Node> parts) {
    }

    private record Token(String word, int place) {
        boolean isName() {
            return word.matches("[a-z]{1,8}") && !word.matches("var|def|type");
        }
    }

    private static final class Snippet {
        String text;
        int form;
        String declared;
        List<String> parts = new ArrayList<>();
        Node body;
    }

    private record Thing(Name type, int edition, List<Object> values) {
    }

    private static final class Name {
        String letters;
        Snippet now;
        int editions;
        Object value;
    }

    private static final class Frame {
        Snippet snippet;
        List<Object> arguments = new ArrayList<>();
        int depth;
    }

    private static final Object NOTHING = new Object();

    private String text = "";
    private List<Snippet> kept = new ArrayList<>();
    private List<Object> results = new ArrayList<>();
    private List<Name> names = new ArrayList<>();
    private int[] thrown = new int[5];
    private int allSteps = 0;
    private int steps = 0;

    int signs(long w) {
        StringBuilder more = new StringBuilder();
        for (int k = 7; k >= 0; k--) {
            int b = (int) (w >> 8 * k) & 0xff;
            if (b != 0) {
                more.append((char) b);
            }
        }
        if (!more.toString().matches("[ -~]*")) {
            return -2;
        }
        if (text.length() + more.length() > 120) {
            return -4;
        }
        text += more;
        return text.length();
    }

    int run() {
        if (kept.size() == 40) {
            return -4;
        }
        Snippet snippet = new Snippet();
        snippet.text = text;
        List<Token> tokens;
        try {
            tokens = tokensOf(text);
            new Grammar(tokens, snippet).snippet();
        } catch (Stop fault) {
            text = "";
            thrown = new int[5];
            return -20 - fault.place;
        }
        List<Name> more = new ArrayList<>(names);
        for (Token token : tokens) {
            if (token.isName() && find(more, token.word) == null) {
                Name name = new Name();
                name.letters = token.word;
                more.add(name);
            }
        }
        if (more.size() > 40) {
            return -4;
        }
        names = more;
        text = "";
        return carryOut(snippet);
    }

    private int carryOut(Snippet snippet) {
        steps = 0;
        thrown = new int[5];
        Object value = NOTHING;
        try {
            if (snippet.form <= 1 && snippet.body != null) {
                Frame frame = new Frame();
                frame.snippet = snippet;
                value = valueOf(snippet.body, frame);
            }
        } catch (Failure f) {
            int where = kept.indexOf(f.snippet);
            thrown = new int[] {f.failure, where < 0 ? kept.size() : where, f.place, f.depth, steps};
            return -200 - f.failure;
        } finally {
            thrown[4] = steps;
            allSteps += steps;
        }
        kept.add(snippet);
        if (snippet.form == 0) {
            results.add(value);
            return results.size();
        }
        Name name = find(names, snippet.declared);
        name.now = snippet;
        name.value = value;
        if (snippet.form == 3) {
            name.editions++;
        }
        return 0;
    }

    private Object valueOf(Node node, Frame frame) {
        steps++;
        if (steps > 400) {
            throw new Failure(8, frame, node);
        }
        switch (node.op) {
            case "num":
                return Long.parseLong(node.word);
            case "res":
                int result = Integer.parseInt(node.word);
                if (result < 1 || result > results.size()) {
                    throw new Failure(1, frame, node);
                }
                return results.get(result - 1);
            case "name":
                return named(node, frame);
            case "call":
                return called(node, frame);
            case "neg":
                return -whole(valueOf(node.parts.get(0), frame), node, frame);
            case "field":
                return field(valueOf(node.parts.get(0), frame), node, frame);
            case "?":
                long test = whole(valueOf(node.parts.get(0), frame), node, frame);
                return valueOf(node.parts.get(test != 0 ? 1 : 2), frame);
            default:
                Object left = valueOf(node.parts.get(0), frame);
                Object right = valueOf(node.parts.get(1), frame);
                return operated(left, right, node, frame);
        }
    }

    private Object named(Node node, Frame frame) {
        int argument = frame.snippet.form == 2 ? frame.snippet.parts.indexOf(node.word) : -1;
        if (argument >= 0) {
            return frame.arguments.get(argument);
        }
        Name name = find(names, node.word);
        if (name.now == null || name.now.form != 1) {
            throw new Failure(1, frame, node);
        }
        return name.value;
    }

    private Object called(Node node, Frame frame) {
        Name name = find(names, node.word);
        if (name.now == null || name.now.form == 1) {
            throw new Failure(1, frame, node);
        }
        if (name.now.parts.size() != node.parts.size()) {
            throw new Failure(5, frame, node);
        }
        if (name.now.form == 2 && frame.depth == 20) {
            throw new Failure(9, frame, node);
        }
        Frame inner = new Frame();
        inner.snippet = name.now;
        inner.depth = frame.depth + 1;
        for (Node part : node.parts) {
            inner.arguments.add(valueOf(part, frame));
        }
        if (name.now.form == 3) {
            return new Thing(name, name.editions, inner.arguments);
        }
        return valueOf(name.now.body, inner);
    }

    private long whole(Object value, Node node, Frame frame) {
        if (value == NOTHING) {
            throw new Failure(2, frame, node);
        }
        if (value instanceof Thing) {
            throw new Failure(3, frame, node);
        }
        return (Long) value;
    }

    private Object field(Object value, Node node, Frame frame) {
        if (value == NOTHING) {
            throw new Failure(2, frame, node);
        }
        if (!(value instanceof Thing)) {
            throw new Failure(3, frame, node);
        }
        Thing thing = (Thing) value;
        if (isOld(thing)) {
            throw new Failure(7, frame, node);
        }
        int i = thing.type.now.parts.indexOf(node.word);
        if (i < 0) {
            throw new Failure(6, frame, node);
        }
        return thing.values.get(i);
    }

    private Object operated(Object left, Object right, Node node, Frame frame) {
        if (left == NOTHING || right == NOTHING) {
            throw new Failure(2, frame, node);
        }
        if (node.op.equals("=") && left instanceof Thing && right instanceof Thing) {
            return left == right ? 1L : 0L;
        }
        long a = whole(left, node, frame);
        long b = whole(right, node, frame);
        if ("/%".contains(node.op) && b == 0) {
            throw new Failure(4, frame, node);
        }
        switch (node.op) {
            case "+": return a + b;
            case "-": return a - b;
            case "*": return a * b;
            case "/": return a / b;
            case "%": return a % b;
            case "<": return a < b ? 1L : 0L;
            default: return a == b ? 1L : 0L;
        }
    }

    private static boolean isOld(Thing thing) {
        return thing.type.now.form != 3 || thing.type.editions != thing.edition;
    }

    private static Name find(List<Name> names, String letters) {
        for (Name name : names) {
            if (name.letters.equals(letters)) {
                return name;
            }
        }
        return null;
    }

    /** A word that is no TOKEN stands in the list too: it can stand nowhere in the grammar. */
    private static List<Token> tokensOf(String text) {
        List<Token> tokens = new ArrayList<>();
        java.util.regex.Matcher words = java.util.regex.Pattern.compile("[a-z]+|[0-9]+|\\$[0-9]*|[^ ]").matcher(text);
        while (words.find()) {
            tokens.add(new Token(words.group(), words.start()));
        }
        tokens.add(new Token("", text.length()));
        return tokens;
    }

    private static final class Grammar {
        final List<Token> tokens;
        final Snippet snippet;
        int at = 0;
        int open = 0;

        Grammar(List<Token> tokens, Snippet snippet) {
            this.tokens = tokens;
            this.snippet = snippet;
        }

        Token now() {
            Token token = tokens.get(at);
            if (at == 60 && !token.word.isEmpty()) {
                throw new Stop(token.place);
            }
            return token;
        }

        boolean sees(String word) {
            return now().word.equals(word);
        }

        Stop stop() {
            return new Stop(now().place);
        }

        Token take(String pattern) {
            Token token = now();
            if (!token.word.matches(pattern)) {
                throw stop();
            }
            at++;
            return token;
        }

        String takeName() {
            if (!now().isName()) {
                throw stop();
            }
            at++;
            return tokens.get(at - 1).word;
        }

        Token takeOpening() {
            if (open == 12) {
                throw stop();
            }
            open++;
            at++;
            return tokens.get(at - 1);
        }

        void snippet() {
            snippet.form = List.of("", "var", "def", "type").indexOf(now().word);
            if (snippet.form <= 0) {
                snippet.form = 0;
                snippet.body = expr();
            } else {
                at++;
                snippet.declared = takeName();
            }
            if (snippet.form == 1 && sees("=")) {
                at++;
                snippet.body = expr();
            }
            if (snippet.form >= 2) {
                take("\\(");
                if (snippet.form == 3 || !sees(")")) {
                    parts();
                }
                take("\\)");
            }
            if (snippet.form == 2) {
                take("=");
                snippet.body = expr();
            }
            if (!now().word.isEmpty()) {
                throw stop();
            }
        }

        void parts() {
            do {
                if (!snippet.parts.isEmpty()) {
                    at++;
                }
                if (snippet.parts.contains(now().word)) {
                    throw stop();
                }
                snippet.parts.add(takeName());
            } while (sees(",") && snippet.parts.size() < 3);
        }

        Node expr() {
            Node test = test();
            if (!sees("?")) {
                return test;
            }
            Token mark = takeOpening();
            Node then = expr();
            take(":");
            Node other = expr();
            open--;
            return new Node("?", mark.place, "", List.of(test, then, other));
        }

        Node test() {
            Node left = sum();
            if (!sees("<") && !sees("=")) {
                return left;
            }
            Token sign = take("[<=]");
            return new Node(sign.word, sign.place, "", List.of(left, sum()));
        }

        Node sum() {
            Node left = prod();
            while (sees("+") || sees("-")) {
                Token sign = take("[-+]");
                left = new Node(sign.word, sign.place, "", List.of(left, prod()));
            }
            return left;
        }

        Node prod() {
            Node left = fact();
            while (sees("*") || sees("/") || sees("%")) {
                Token sign = take("[*/%]");
                left = new Node(sign.word, sign.place, "", List.of(left, fact()));
            }
            return left;
        }

        Node fact() {
            if (sees("-")) {
                Token sign = takeOpening();
                Node part = fact();
                open--;
                return new Node("neg", sign.place, "", List.of(part));
            }
            Node left = atom();
            while (sees(".")) {
                Token sign = take("\\.");
                left = new Node("field", sign.place, takeName(), List.of(left));
            }
            return left;
        }

        Node atom() {
            Token token = now();
            if (token.word.matches("[0-9]{1,18}")) {
                at++;
                return new Node("num", token.place, token.word, List.of());
            }
            if (token.word.matches("\\$[0-9]{1,3}")) {
                at++;
                return new Node("res", token.place, token.word.substring(1), List.of());
            }
            if (sees("(")) {
                takeOpening();
                Node inner = expr();
                take("\\)");
                open--;
                return inner;
            }
            takeName();
            if (!sees("(")) {
                return new Node("name", token.place, token.word, List.of());
            }
            takeOpening();
            List<Node> parts = new ArrayList<>();
            while (!sees(")") || !parts.isEmpty()) {
                parts.add(expr());
                if (parts.size() == 3 || !sees(",")) {
                    break;
                }
                at++;
            }
            take("\\)");
            open--;
            return new Node("call", token.place, token.word, parts);
        }
    }

    int thrown(int what) {
        return what < 0 || what > 4 ? -2 : thrown[what];
    }

    private static int kindOf(Object value) {
        return value == NOTHING ? 0 : value instanceof Thing ? 2 : 1;
    }

    int kind(int result) {
        return result < 1 || result > results.size() ? -1 : kindOf(results.get(result - 1));
    }

    long wholeOrThrown(int result) {
        int kind = kind(result);
        return kind == 1 ? (Long) results.get(result - 1) : kind == 2 ? Check.CLASS_CAST : Check.NULL_POINTER;
    }

    int thing(int result, int what) {
        if (kind(result) != 2) {
            return -1;
        }
        Thing thing = (Thing) results.get(result - 1);
        if (what < 0 || what > 6) {
            return -2;
        }
        if (what >= 4) {
            return what - 4 < thing.values.size() ? kindOf(thing.values.get(what - 4)) : -5;
        }
        return new int[] {names.indexOf(thing.type), thing.edition, thing.values.size(), isOld(thing) ? 1 : 0}[what];
    }

    int name(long w) {
        for (Name name : names) {
            if (Check.word(name.letters) == w) {
                return names.indexOf(name);
            }
        }
        return -5;
    }

    private boolean isUnknown(int name) {
        return name < 0 || name >= names.size();
    }

    int letter(int name, int i) {
        if (isUnknown(name)) {
            return -1;
        }
        String letters = names.get(name).letters;
        return i < 0 || i >= letters.length() ? -5 : letters.charAt(i);
    }

    int what(int name) {
        return isUnknown(name) ? -1 : names.get(name).now == null ? 0 : names.get(name).now.form;
    }

    int by(int name) {
        return isUnknown(name) ? -1 : names.get(name).now == null ? -5 : kept.indexOf(names.get(name).now);
    }

    int edition(int name) {
        return isUnknown(name) ? -1 : names.get(name).editions;
    }

    private boolean isReplaced(Snippet snippet) {
        return snippet.form != 0 && find(names, snippet.declared).now != snippet;
    }

    /** The NAMES that a MEMBER uses, those that it calls with a ( behind them. */
    private static void uses(Snippet snippet, Node node, List<String> used) {
        if (node.op.equals("call")) {
            used.add(node.word + "(");
        }
        if (node.op.equals("name") && !snippet.parts.contains(node.word)) {
            used.add(node.word);
        }
        for (Node part : node.parts) {
            uses(snippet, part, used);
        }
    }

    private static List<String> usedBy(Snippet snippet) {
        List<String> used = new ArrayList<>();
        if (snippet.form == 2) {
            uses(snippet, snippet.body, used);
        }
        return used;
    }

    int state(int snippet) {
        if (snippet < 0 || snippet >= kept.size()) {
            return -1;
        }
        if (isReplaced(kept.get(snippet))) {
            return 2;
        }
        for (String used : usedBy(kept.get(snippet))) {
            int form = what(names.indexOf(find(names, used.replace("(", ""))));
            if (used.endsWith("(") ? form < 2 : form != 1) {
                return 1;
            }
        }
        return 0;
    }

    long textOrThrown(int snippet, int i) {
        if (snippet < 0 || snippet >= kept.size() || i < 0 || i >= kept.get(snippet).text.length()) {
            return Check.OUT_OF_BOUNDS;
        }
        return kept.get(snippet).text.charAt(i);
    }

    int user(int name, int i) {
        if (isUnknown(name)) {
            return -1;
        }
        List<Integer> users = new ArrayList<>();
        String letters = names.get(name).letters;
        for (Snippet snippet : kept) {
            List<String> used = usedBy(snippet);
            if (!isReplaced(snippet) && (used.contains(letters) || used.contains(letters + "("))) {
                users.add(kept.indexOf(snippet));
            }
        }
        return i < 0 || i >= users.size() ? -5 : users.get(i);
    }

    int count(int what) {
        int waiting = 0;
        for (int k = 0; k < kept.size(); k++) {
            waiting += state(k) == 1 ? 1 : 0;
        }
        int old = 0;
        for (Object result : results) {
            old += result instanceof Thing && isOld((Thing) result) ? 1 : 0;
        }
        int[] counts = {kept.size(), results.size(), names.size(), text.length(), waiting, old, allSteps};
        return what < 0 || what > 6 ? -2 : counts[what];
    }

    int erase() {
        int before = text.length();
        text = "";
        return before;
    }

    int reset() {
        int before = kept.size();
        text = "";
        kept = new ArrayList<>();
        results = new ArrayList<>();
        names = new ArrayList<>();
        thrown = new int[5];
        allSteps = 0;
        return before;
    }
}
