import java.util.Arrays;

/**
 * A shell of snippets: variables, members and types that are declared one by one, and
 * expressions whose values are kept by number. The words in capitals are the document's.
 */
public final class SnippetShell {
    public static final int UNKNOWN = -1, OUTSIDE = -2, FULL = -4, NONE = -5;

    private static final int MOST_SIGNS = 120;
    private static final int FIRST_SIGN = 32;
    private static final int LAST_SIGN = 126;
    private static final int HIGHEST_BYTE = 56;
    private static final int FAULT_ANSWER = -20;
    private static final int FAILURE_ANSWER = -200;

    private final byte[] signs = new byte[MOST_SIGNS];
    private final Tokens tokens = new Tokens();
    private final Reader reader = new Reader(tokens);
    private final Shelf shelf = new Shelf();
    private final Machine machine = new Machine(shelf);
    private int length;

    public SnippetShell() {
    }

    public int signs(long w) {
        int more = 0;
        for (int shift = HIGHEST_BYTE; shift >= 0; shift -= 8) {
            int sign = byteOf(w, shift);
            if (sign != 0) {
                if (sign < FIRST_SIGN || sign > LAST_SIGN) {
                    return OUTSIDE;
                }
                more++;
            }
        }
        if (more > MOST_SIGNS - length) {
            return FULL;
        }
        for (int shift = HIGHEST_BYTE; shift >= 0; shift -= 8) {
            addSign(byteOf(w, shift));
        }
        return length;
    }

    public int run() {
        if (shelf.isFull()) {
            return FULL;
        }
        tokens.cut(signs, length);
        int fault = reader.read();
        if (fault >= 0) {
            machine.forgetReport();
            length = 0;
            return FAULT_ANSWER - fault;
        }
        if (!shelf.names.takeAll(tokens)) {
            return FULL;
        }
        int answer = runWithoutFault();
        length = 0;
        return answer;
    }

    public int thrown(int what) {
        return what >= 0 && what < Machine.REPORTED ? machine.reported(what) : OUTSIDE;
    }

    public int kind(int result) {
        return shelf.hasResult(result) ? shelf.results.kindAt(result) : UNKNOWN;
    }

    public long whole(int result) throws NullPointerException, ClassCastException {
        int kind = kind(result);
        if (kind == Values.THING) {
            throw new ClassCastException();
        }
        if (kind != Values.WHOLE) {
            throw new NullPointerException();
        }
        return shelf.results.coreAt(result);
    }

    public int thing(int result, int what) {
        if (kind(result) != Values.THING) {
            return UNKNOWN;
        }
        int thing = (int) shelf.results.coreAt(result);
        return switch (what) {
            case 0 -> shelf.things.typeOf(thing);
            case 1 -> shelf.things.editionOf(thing);
            case 2 -> shelf.things.sizeOf(thing);
            case 3 -> shelf.isOld(thing) ? 1 : 0;
            case 4, 5, 6 -> shelf.things.fieldKind(thing, what - 4);
            default -> OUTSIDE;
        };
    }

    public int name(long w) {
        return shelf.names.find(w);
    }

    public int letter(int name, int i) {
        return shelf.names.has(name) ? shelf.names.letterOf(name, i) : UNKNOWN;
    }

    public int what(int name) {
        return shelf.names.has(name) ? shelf.names.formOf(name) : UNKNOWN;
    }

    public int by(int name) {
        return shelf.names.has(name) ? shelf.names.declarerOf(name) : UNKNOWN;
    }

    public int edition(int name) {
        return shelf.names.has(name) ? shelf.names.editionOf(name) : UNKNOWN;
    }

    public int state(int snippet) {
        return shelf.hasSnippet(snippet) ? shelf.stateOf(snippet) : UNKNOWN;
    }

    public int text(int snippet, int i) throws ArrayIndexOutOfBoundsException {
        int sign = shelf.signOf(snippet, i);
        if (sign == NONE) {
            throw new ArrayIndexOutOfBoundsException();
        }
        return sign;
    }

    public int user(int name, int i) {
        return shelf.names.has(name) ? shelf.userOf(name, i) : UNKNOWN;
    }

    public int count(int what) {
        return switch (what) {
            case 0 -> shelf.keptCount();
            case 1 -> shelf.resultCount();
            case 2 -> shelf.names.size();
            case 3 -> length;
            case 4 -> shelf.countWaiting();
            case 5 -> shelf.countOldResults();
            case 6 -> machine.stepsInAll();
            default -> OUTSIDE;
        };
    }

    public int erase() {
        int before = length;
        length = 0;
        return before;
    }

    public int reset() {
        int before = shelf.keptCount();
        length = 0;
        shelf.clear();
        machine.clear();
        return before;
    }

    private static int byteOf(long w, int shift) {
        return (int) (w >>> shift) & 255;
    }

    private void addSign(int sign) {
        if (sign != 0 && length < MOST_SIGNS) {
            signs[length] = (byte) sign;
            length++;
        }
    }

    private int runWithoutFault() {
        machine.forgetReport();
        reader.numberNames(shelf.names, shelf.keptCount());
        int form = reader.form();
        if (form == Snippet.EXPRESSION || form == Snippet.VARIABLE) {
            machine.work(reader.code());
            if (machine.failure() != 0) {
                return FAILURE_ANSWER - machine.failure();
            }
        }
        shelf.keep(reader.snippet(Arrays.copyOf(signs, length)), machine.valueKind(), machine.valueCore());
        return form == Snippet.EXPRESSION ? shelf.resultCount() : 0;
    }

    /** The TOKENS of THE TEXT. What cannot be one is a BAD one, which can stand nowhere. */
    private static final class Tokens {
        static final int MOST = 60;
        static final int END = 0;
        static final int BAD = 1;
        static final int NUMBER = '0';
        static final int RESULT = '$';
        static final int NAME = 'a';
        static final int VAR = 'v';
        static final int DEF = 'd';
        static final int TYPE = 't';

        private static final String SINGLE_SIGNS = "+-*/%<=?:(),.";
        private static final int MOST_LETTERS = 8;
        private static final int MOST_DIGITS = 18;
        private static final int MOST_RESULT_DIGITS = 3;
        private static final long WORD_VAR = 0x766172L;
        private static final long WORD_DEF = 0x646566L;
        private static final long WORD_TYPE = 0x74797065L;

        // the 61st TOKEN and the END stand in the rows too
        private final int[] kinds = new int[MOST + 2];
        private final int[] places = new int[MOST + 2];
        private final long[] cores = new long[MOST + 2];
        private int count;

        void cut(byte[] signs, int length) {
            count = 0;
            int at = afterBlanks(signs, 0, length);
            for (int k = 0; k <= MOST && at < length; k++) {
                int end = cutOne(signs, at, length);
                at = afterBlanks(signs, end, length);
            }
            put(END, length, 0);
        }

        /** The number of TOKENS, the END being behind them. */
        int size() {
            return count;
        }

        int kindAt(int i) {
            return i >= 0 && i < count ? kinds[i] : END;
        }

        int placeAt(int i) {
            return i >= 0 && i <= count && i < places.length ? places[i] : 0;
        }

        /** What a NUMBER or RESULT counts, or the letters of a NAME. */
        long coreAt(int i) {
            return i >= 0 && i < count ? cores[i] : 0;
        }

        private static int afterBlanks(byte[] signs, int from, int length) {
            int at = from;
            while (at < length && signs[at] == ' ') {
                at++;
            }
            return at;
        }

        private int cutOne(byte[] signs, int at, int length) {
            int sign = signs[at];
            if (count >= MOST) {
                put(BAD, at, 0);
                return length;
            }
            if (isLetter(sign)) {
                return cutLetters(signs, at, length);
            }
            if (isDigit(sign)) {
                return cutDigits(signs, at, length, NUMBER);
            }
            if (sign == '$') {
                return cutDigits(signs, at, length, RESULT);
            }
            put(SINGLE_SIGNS.indexOf((char) sign) >= 0 ? sign : BAD, at, 0);
            return at + 1;
        }

        private int cutLetters(byte[] signs, int at, int length) {
            int end = at;
            long core = 0;
            while (end < length && isLetter(signs[end])) {
                core = core << 8 | signs[end];
                end++;
            }
            put(end - at > MOST_LETTERS ? BAD : wordKind(core), at, core);
            return end;
        }

        private int cutDigits(byte[] signs, int at, int length, int kind) {
            int first = kind == RESULT ? at + 1 : at;
            int most = kind == RESULT ? MOST_RESULT_DIGITS : MOST_DIGITS;
            int end = first;
            long core = 0;
            while (end < length && isDigit(signs[end])) {
                core = core * 10 + (signs[end] - '0');
                end++;
            }
            put(end == first || end - first > most ? BAD : kind, at, core);
            return end;
        }

        private static int wordKind(long letters) {
            if (letters == WORD_VAR) {
                return VAR;
            }
            if (letters == WORD_DEF) {
                return DEF;
            }
            return letters == WORD_TYPE ? TYPE : NAME;
        }

        private static boolean isLetter(int sign) {
            return sign >= 'a' && sign <= 'z';
        }

        private static boolean isDigit(int sign) {
            return sign >= '0' && sign <= '9';
        }

        private void put(int kind, int place, long core) {
            if (count < kinds.length) {
                kinds[count] = kind;
                places[count] = place;
                cores[count] = core;
                if (kind != END) {
                    count++;
                }
            }
        }
    }

    /**
     * What an EXPR asks the Machine to do, in the order in which it is done. An operator is told
     * twice: as BEGIN ahead of its parts, where it is a STEP, and as itself behind them.
     */
    private static final class Code {
        static final int BEGIN = 1;
        static final int NUMBER = 2;
        static final int RESULT = 3;
        static final int ARGUMENT = 4;
        static final int VARIABLE = 5;
        static final int OPEN_CALL = 6;
        /** Those from here on are no STEPS. */
        static final int NOTHING = 7;
        static final int CALL = 8;
        static final int FIELD = 9;
        static final int NEGATE = 10;
        static final int BRANCH = 11;
        static final int JUMP = 12;
        static final int RETURN = 13;

        // no TOKEN asks for more than two deeds, and RETURN is the last
        static final int MOST = 2 * Tokens.MOST + 1;

        private final int[] deeds;
        private final int[] places;
        private final int[] counts;
        private final long[] cores;
        private int size;
        private int owner;

        Code(int room) {
            deeds = new int[room];
            places = new int[room];
            counts = new int[room];
            cores = new long[room];
        }

        void clear() {
            size = 0;
        }

        int size() {
            return size;
        }

        /** The number that its SNIPPET has, or will have if it is KEPT. */
        int owner() {
            return owner;
        }

        int deedAt(int i) {
            return i >= 0 && i < size ? deeds[i] : RETURN;
        }

        int placeAt(int i) {
            return i >= 0 && i < size ? places[i] : 0;
        }

        /** How many EXPRS a call has, how far a jump goes, or which ARGUMENT it is. */
        int countAt(int i) {
            return i >= 0 && i < size ? counts[i] : 0;
        }

        /** A NUMBER, or the NAME that a deed is about. */
        long coreAt(int i) {
            return i >= 0 && i < size ? cores[i] : 0;
        }

        void add(int deed, int place) {
            addWith(deed, place, 0, 0);
        }

        void addWith(int deed, int place, int count, long core) {
            if (size < deeds.length) {
                deeds[size] = deed;
                places[size] = place;
                counts[size] = count;
                cores[size] = core;
                size++;
            }
        }

        /** An operator is read behind its left part, but begins ahead of it: that part moves on. */
        void beginAhead(int start, int place) {
            if (start >= 0 && start <= size && size < deeds.length) {
                int moved = size - start;
                System.arraycopy(deeds, start, deeds, start + 1, moved);
                System.arraycopy(places, start, places, start + 1, moved);
                System.arraycopy(counts, start, counts, start + 1, moved);
                System.arraycopy(cores, start, cores, start + 1, moved);
                deeds[start] = BEGIN;
                places[start] = place;
                size++;
            }
        }

        void setCount(int i, int count) {
            if (i >= 0 && i < size) {
                counts[i] = count;
            }
        }

        /** Jumps are told by how far they go, so that they stay right when they move on. */
        void aimAtEnd(int jump) {
            setCount(jump, size - jump - 1);
        }

        void numberNames(Names names, int newOwner) {
            owner = newOwner;
            for (int i = 0; i < size; i++) {
                if (deeds[i] == VARIABLE || deeds[i] == OPEN_CALL || deeds[i] == CALL || deeds[i] == FIELD) {
                    cores[i] = names.find(cores[i]);
                }
            }
        }

        Code copy() {
            Code copy = new Code(size);
            System.arraycopy(deeds, 0, copy.deeds, 0, size);
            System.arraycopy(places, 0, copy.places, 0, size);
            System.arraycopy(counts, 0, copy.counts, 0, size);
            System.arraycopy(cores, 0, copy.cores, 0, size);
            copy.size = size;
            copy.owner = owner;
            return copy;
        }
    }

    /** Reads the TOKENS as a SNIPPET; the first TOKEN that cannot stand where it is, is the FAULT. */
    private static final class Reader {
        private static final int MOST_PARTS = 3;
        private static final int MOST_OPEN = 12;
        private static final int LEVEL_TEST = 0;
        private static final int LEVEL_SUM = 1;
        private static final int LEVEL_PROD = 2;
        private static final int LEVEL_FACT = 3;

        private final Tokens tokens;
        private final Code code = new Code(Code.MOST);
        private final long[] parts = new long[MOST_PARTS];
        private int partCount;
        private int form;
        private long declared;
        private int at;
        private int open;
        private int fault;

        Reader(Tokens tokens) {
            this.tokens = tokens;
        }

        /** The place of the FAULT, or NONE. */
        int read() {
            code.clear();
            partCount = 0;
            declared = 0;
            at = 0;
            open = 0;
            fault = NONE;
            switch (tokens.kindAt(0)) {
                case Tokens.VAR -> readVariable();
                case Tokens.DEF -> readMember();
                case Tokens.TYPE -> readType();
                default -> readAlone();
            }
            if (!isAt(Tokens.END)) {
                refuse();
            }
            code.add(Code.RETURN, 0);
            return fault;
        }

        int form() {
            return form;
        }

        Code code() {
            return code;
        }

        /** NAMES get their numbers only when it is known that there is no FAULT. */
        void numberNames(Names names, int snippet) {
            code.numberNames(names, snippet);
            declared = names.find(declared);
            for (int i = 0; i < partCount; i++) {
                parts[i] = names.find(parts[i]);
            }
        }

        Snippet snippet(byte[] signs) {
            int[] partNames = new int[partCount];
            for (int i = 0; i < partCount; i++) {
                partNames[i] = (int) parts[i];
            }
            return new Snippet(form, (int) declared, partNames, signs, code.copy());
        }

        private void readAlone() {
            form = Snippet.EXPRESSION;
            readExpr();
        }

        private void readVariable() {
            form = Snippet.VARIABLE;
            at++;
            declared = readName();
            if (isAt('=')) {
                at++;
                readExpr();
            } else {
                code.add(Code.NOTHING, 0);
            }
        }

        private void readMember() {
            form = Snippet.MEMBER;
            at++;
            declared = readName();
            // this ( is not counted as open: nothing that counts can stand ahead of its )
            expect('(');
            if (!isAt(')')) {
                readParts();
            }
            expect(')');
            expect('=');
            readExpr();
        }

        private void readType() {
            form = Snippet.TYPE;
            at++;
            declared = readName();
            expect('(');
            readParts();
            expect(')');
        }

        private void readParts() {
            readPart();
            for (int k = 1; k < MOST_PARTS && isAt(','); k++) {
                at++;
                readPart();
            }
        }

        private void readPart() {
            if (!isAt(Tokens.NAME) || partOf(tokens.coreAt(at)) >= 0 || partCount >= MOST_PARTS) {
                refuse();
                return;
            }
            parts[partCount] = tokens.coreAt(at);
            partCount++;
            at++;
        }

        private void readExpr() {
            int start = code.size();
            readLevel(LEVEL_TEST);
            if (isAt('?')) {
                readChoice(start);
            }
        }

        private void readChoice(int start) {
            int place = tokens.placeAt(at);
            if (!enter()) {
                return;
            }
            code.beginAhead(start, place);
            int branch = code.size();
            code.add(Code.BRANCH, place);
            readExpr();
            expect(':');
            int jump = code.size();
            code.add(Code.JUMP, place);
            code.aimAtEnd(branch);
            readExpr();
            code.aimAtEnd(jump);
            open--;
        }

        /** TEST, SUM and PROD are alike, but for their signs and that a TEST has one sign at most. */
        private void readLevel(int level) {
            if (level >= LEVEL_FACT) {
                readFact();
                return;
            }
            int start = code.size();
            int most = level == LEVEL_TEST ? 1 : Tokens.MOST;
            readLevel(level + 1);
            for (int k = 0; k < most && levelOf(tokens.kindAt(at)) == level; k++) {
                int sign = tokens.kindAt(at);
                int place = tokens.placeAt(at);
                code.beginAhead(start, place);
                at++;
                readLevel(level + 1);
                code.add(sign, place);
            }
        }

        private static int levelOf(int sign) {
            return switch (sign) {
                case '<', '=' -> LEVEL_TEST;
                case '+', '-' -> LEVEL_SUM;
                case '*', '/', '%' -> LEVEL_PROD;
                default -> NONE;
            };
        }

        private void readFact() {
            if (isAt('-')) {
                readNegation();
                return;
            }
            int start = code.size();
            readAtom();
            for (int k = 0; k < Tokens.MOST && isAt('.'); k++) {
                int place = tokens.placeAt(at);
                code.beginAhead(start, place);
                at++;
                long field = readName();
                code.addWith(Code.FIELD, place, 0, field);
            }
        }

        private void readNegation() {
            int place = tokens.placeAt(at);
            if (enter()) {
                code.add(Code.BEGIN, place);
                readFact();
                code.add(Code.NEGATE, place);
                open--;
            }
        }

        private void readAtom() {
            int place = tokens.placeAt(at);
            long core = tokens.coreAt(at);
            switch (tokens.kindAt(at)) {
                case Tokens.NUMBER -> {
                    code.addWith(Code.NUMBER, place, 0, core);
                    at++;
                }
                case Tokens.RESULT -> {
                    code.addWith(Code.RESULT, place, (int) core, 0);
                    at++;
                }
                case Tokens.NAME -> {
                    at++;
                    readNamed(place, core);
                }
                case '(' -> readInner();
                default -> refuse();
            }
        }

        private void readInner() {
            if (enter()) {
                readExpr();
                expect(')');
                open--;
            }
        }

        private void readNamed(int place, long letters) {
            int argument = partOf(letters);
            if (isAt('(')) {
                readCall(place, letters);
            } else if (argument >= 0) {
                code.addWith(Code.ARGUMENT, place, argument, 0);
            } else {
                code.addWith(Code.VARIABLE, place, 0, letters);
            }
        }

        private void readCall(int place, long letters) {
            if (!enter()) {
                return;
            }
            int call = code.size();
            int given = 0;
            code.addWith(Code.OPEN_CALL, place, 0, letters);
            if (!isAt(')')) {
                readExpr();
                given = 1;
                while (given < MOST_PARTS && isAt(',')) {
                    at++;
                    readExpr();
                    given++;
                }
            }
            expect(')');
            open--;
            code.setCount(call, given);
            code.addWith(Code.CALL, place, given, letters);
        }

        private long readName() {
            long letters = tokens.coreAt(at);
            expect(Tokens.NAME);
            return letters;
        }

        private int partOf(long letters) {
            for (int i = 0; i < partCount; i++) {
                if (parts[i] == letters) {
                    return i;
                }
            }
            return NONE;
        }

        private boolean isAt(int kind) {
            return tokens.kindAt(at) == kind;
        }

        private void expect(int kind) {
            if (isAt(kind)) {
                at++;
            } else {
                refuse();
            }
        }

        private boolean enter() {
            if (open >= MOST_OPEN) {
                refuse();
                return false;
            }
            open++;
            at++;
            return true;
        }

        /** From the END on nothing more is read, so that the first FAULT stays the one that counts. */
        private void refuse() {
            if (fault < 0) {
                fault = tokens.placeAt(at);
            }
            at = tokens.size();
        }
    }

    /** A SNIPPET that is KEPT. Its form is also what a NAME is that it declared. */
    private static final class Snippet {
        static final int EXPRESSION = 0;
        static final int VARIABLE = 1;
        static final int MEMBER = 2;
        static final int TYPE = 3;

        private final int form;
        private final int declared;
        private final int[] parts;
        private final byte[] signs;
        private final Code code;

        Snippet(int form, int declared, int[] parts, byte[] signs, Code code) {
            this.form = form;
            this.declared = declared;
            this.parts = parts;
            this.signs = signs;
            this.code = code;
        }

        int form() {
            return form;
        }

        int declared() {
            return declared;
        }

        Code code() {
            return code;
        }

        /** How many ARGUMENTS a MEMBER or FIELDS a TYPE has. */
        int size() {
            return parts.length;
        }

        int partOf(long name) {
            for (int i = 0; i < parts.length; i++) {
                if (parts[i] == name) {
                    return i;
                }
            }
            return NONE;
        }

        int signAt(int i) {
            return i >= 0 && i < signs.length ? signs[i] : NONE;
        }

        boolean usesName(int name) {
            for (int i = 0; i < code.size(); i++) {
                int deed = code.deedAt(i);
                if ((deed == Code.VARIABLE || deed == Code.OPEN_CALL) && code.coreAt(i) == name) {
                    return form == MEMBER;
                }
            }
            return false;
        }

        boolean lacksName(Names names) {
            for (int i = 0; i < code.size(); i++) {
                int what = names.formOf((int) code.coreAt(i));
                if (code.deedAt(i) == Code.VARIABLE && what != VARIABLE) {
                    return form == MEMBER;
                }
                if (code.deedAt(i) == Code.OPEN_CALL && what != MEMBER && what != TYPE) {
                    return form == MEMBER;
                }
            }
            return false;
        }
    }

    /** The NAMES by number, and what each is declared as. */
    private static final class Names {
        static final int MOST = 40;

        private final long[] letters = new long[MOST];
        private final int[] forms = new int[MOST];
        private final int[] declarers = new int[MOST];
        private final int[] editions = new int[MOST];
        private int count;

        void clear() {
            count = 0;
        }

        int size() {
            return count;
        }

        boolean has(int name) {
            return name >= 0 && name < count;
        }

        int find(long wanted) {
            for (int i = 0; i < count; i++) {
                if (letters[i] == wanted) {
                    return i;
                }
            }
            return NONE;
        }

        /** Numbers all NAMES of the TOKENS, or none if they would be too many. */
        boolean takeAll(Tokens tokens) {
            int before = count;
            for (int i = 0; i < tokens.size(); i++) {
                if (tokens.kindAt(i) == Tokens.NAME && find(tokens.coreAt(i)) == NONE) {
                    if (count >= MOST) {
                        count = before;
                        return false;
                    }
                    addNew(tokens.coreAt(i));
                }
            }
            return true;
        }

        void declare(int name, int form, int snippet) {
            if (has(name)) {
                forms[name] = form;
                declarers[name] = snippet;
                if (form == Snippet.TYPE) {
                    editions[name]++;
                }
            }
        }

        int formOf(int name) {
            return has(name) ? forms[name] : 0;
        }

        int declarerOf(int name) {
            return has(name) ? declarers[name] : NONE;
        }

        int editionOf(int name) {
            return has(name) ? editions[name] : 0;
        }

        int letterOf(int name, int i) {
            if (!has(name) || i < 0) {
                return NONE;
            }
            int seen = 0;
            for (int shift = HIGHEST_BYTE; shift >= 0; shift -= 8) {
                int letter = byteOf(letters[name], shift);
                if (letter != 0) {
                    if (seen == i) {
                        return letter;
                    }
                    seen++;
                }
            }
            return NONE;
        }

        private void addNew(long wanted) {
            if (count < MOST) {
                letters[count] = wanted;
                forms[count] = 0;
                declarers[count] = NONE;
                editions[count] = 0;
                count++;
            }
        }
    }

    /** A row of VALUES: the kind of each, and the WHOLE that it is or the number of its THING. */
    private static final class Values {
        static final int NOTHING = 0;
        static final int WHOLE = 1;
        static final int THING = 2;

        private final int[] kinds;
        private final long[] cores;

        Values(int room) {
            kinds = new int[room];
            cores = new long[room];
        }

        int kindAt(int i) {
            return i >= 0 && i < kinds.length ? kinds[i] : NOTHING;
        }

        long coreAt(int i) {
            return i >= 0 && i < cores.length ? cores[i] : 0;
        }

        void put(int i, int kind, long core) {
            if (i >= 0 && i < kinds.length) {
                kinds[i] = kind;
                cores[i] = core;
            }
        }
    }

    /**
     * The THINGS by number. Their rows grow when they must, as few runs make many; 40 KEPT SNIPPETS
     * of 400 STEPS bound them.
     */
    private static final class Things {
        private static final int MOST_FIELDS = 3;
        private static final int FIRST_ROOM = 32;

        private int[] types = new int[FIRST_ROOM];
        private int[] editions = new int[FIRST_ROOM];
        private int[] sizes = new int[FIRST_ROOM];
        private int[] fieldKinds = new int[FIRST_ROOM * MOST_FIELDS];
        private long[] fieldCores = new long[FIRST_ROOM * MOST_FIELDS];
        private int count;

        int size() {
            return count;
        }

        /** The THINGS of a run that failed are reached by nothing: their rows are used again. */
        void dropFrom(int mark) {
            if (mark >= 0 && mark < count) {
                count = mark;
            }
        }

        /** A new THING, whose VALUES stand in a row from first on. */
        int make(int type, int edition, Values row, int first, int size) {
            if (count >= types.length) {
                doubleRoom();
            }
            types[count] = type;
            editions[count] = edition;
            sizes[count] = size;
            for (int i = 0; i < size && i < MOST_FIELDS; i++) {
                fieldKinds[count * MOST_FIELDS + i] = row.kindAt(first + i);
                fieldCores[count * MOST_FIELDS + i] = row.coreAt(first + i);
            }
            count++;
            return count - 1;
        }

        int typeOf(int thing) {
            return has(thing) ? types[thing] : NONE;
        }

        int editionOf(int thing) {
            return has(thing) ? editions[thing] : 0;
        }

        int sizeOf(int thing) {
            return has(thing) ? sizes[thing] : 0;
        }

        int fieldKind(int thing, int i) {
            return hasField(thing, i) ? fieldKinds[thing * MOST_FIELDS + i] : NONE;
        }

        long fieldCore(int thing, int i) {
            return hasField(thing, i) ? fieldCores[thing * MOST_FIELDS + i] : 0;
        }

        private boolean has(int thing) {
            return thing >= 0 && thing < count;
        }

        private boolean hasField(int thing, int i) {
            return has(thing) && i >= 0 && i < sizes[thing] && i < MOST_FIELDS;
        }

        private void doubleRoom() {
            types = Arrays.copyOf(types, 2 * types.length);
            editions = Arrays.copyOf(editions, 2 * editions.length);
            sizes = Arrays.copyOf(sizes, 2 * sizes.length);
            fieldKinds = Arrays.copyOf(fieldKinds, 2 * fieldKinds.length);
            fieldCores = Arrays.copyOf(fieldCores, 2 * fieldCores.length);
        }
    }

    /** What stays from run to run: NAMES, KEPT SNIPPETS, VARIABLES, RESULTS and THINGS. */
    private static final class Shelf {
        private static final int MOST_KEPT = 40;
        private static final int STATE_WAITING = 1;
        private static final int STATE_REPLACED = 2;

        final Names names = new Names();
        final Things things = new Things();
        final Values variables = new Values(Names.MOST);
        // RESULTS are numbered from 1 on
        final Values results = new Values(MOST_KEPT + 1);
        private final Snippet[] snippets = new Snippet[MOST_KEPT];
        private int kept;
        private int resultCount;

        void clear() {
            names.clear();
            things.dropFrom(0);
            kept = 0;
            resultCount = 0;
        }

        boolean isFull() {
            return kept >= MOST_KEPT;
        }

        int keptCount() {
            return kept;
        }

        int resultCount() {
            return resultCount;
        }

        boolean hasSnippet(int snippet) {
            return snippet >= 0 && snippet < kept && snippets[snippet] != null;
        }

        boolean hasResult(long result) {
            return result >= 1 && result <= resultCount;
        }

        /** The VALUE is that of the EXPR, if the SNIPPET is one that has its EXPR worked out. */
        void keep(Snippet snippet, int kind, long core) {
            if (isFull()) {
                return;
            }
            if (snippet.form() == Snippet.EXPRESSION) {
                resultCount++;
                results.put(resultCount, kind, core);
            } else {
                names.declare(snippet.declared(), snippet.form(), kept);
            }
            if (snippet.form() == Snippet.VARIABLE) {
                variables.put(snippet.declared(), kind, core);
            }
            snippets[kept] = snippet;
            kept++;
        }

        /** The MEMBER or TYPE that a NAME is, or null. */
        Snippet callable(int name) {
            int what = names.formOf(name);
            int declarer = names.declarerOf(name);
            boolean called = what == Snippet.MEMBER || what == Snippet.TYPE;
            return called && hasSnippet(declarer) ? snippets[declarer] : null;
        }

        boolean isOld(int thing) {
            int type = things.typeOf(thing);
            return names.formOf(type) != Snippet.TYPE || names.editionOf(type) != things.editionOf(thing);
        }

        int signOf(int snippet, int i) {
            return hasSnippet(snippet) ? snippets[snippet].signAt(i) : NONE;
        }

        int stateOf(int snippet) {
            if (isReplaced(snippet)) {
                return STATE_REPLACED;
            }
            return hasSnippet(snippet) && snippets[snippet].lacksName(names) ? STATE_WAITING : 0;
        }

        int userOf(int name, int i) {
            int seen = 0;
            for (int k = 0; k < kept; k++) {
                if (hasSnippet(k) && !isReplaced(k) && snippets[k].usesName(name)) {
                    if (seen == i) {
                        return k;
                    }
                    seen++;
                }
            }
            return NONE;
        }

        int countWaiting() {
            int waiting = 0;
            for (int k = 0; k < kept; k++) {
                if (stateOf(k) == STATE_WAITING) {
                    waiting++;
                }
            }
            return waiting;
        }

        int countOldResults() {
            int old = 0;
            for (int k = 1; k <= resultCount; k++) {
                if (results.kindAt(k) == Values.THING && isOld((int) results.coreAt(k))) {
                    old++;
                }
            }
            return old;
        }

        private boolean isReplaced(int snippet) {
            if (!hasSnippet(snippet) || snippets[snippet].form() == Snippet.EXPRESSION) {
                return false;
            }
            return names.declarerOf(snippets[snippet].declared()) != snippet;
        }
    }

    /**
     * Works out EXPRS on a row of VALUES. The MEMBERS that are open stand in rows of their own,
     * not in calls of Java, so that no text makes those deep.
     */
    private static final class Machine {
        /** How many numbers a report has: the FAILURE, its SNIPPET, its place, MEMBERS, STEPS. */
        static final int REPORTED = 5;

        private static final int LACKING = 1;
        private static final int NOTHING = 2;
        private static final int KIND = 3;
        private static final int ZERO = 4;
        private static final int COUNT = 5;
        private static final int FIELD = 6;
        private static final int OLD = 7;
        private static final int SPENT = 8;
        private static final int DEEP = 9;

        private static final int REPORT_FAILURE = 0;
        private static final int REPORT_SNIPPET = 1;
        private static final int REPORT_PLACE = 2;
        private static final int REPORT_MEMBERS = 3;
        private static final int REPORT_STEPS = 4;

        private static final int MOST_STEPS = 400;
        private static final int MOST_MEMBERS = 20;
        // a STEP brings some four deeds at most, so no run comes near this
        private static final int MOST_TURNS = 10000;

        private final Shelf shelf;
        // only a STEP adds a VALUE to the row, and NOTHING of a VARIABLE without one
        private final Values row = new Values(MOST_STEPS + 1);
        private final Code[] callers = new Code[MOST_MEMBERS];
        private final int[] returns = new int[MOST_MEMBERS];
        private final int[] bases = new int[MOST_MEMBERS];
        private final int[] report = new int[REPORTED];
        private Code code = new Code(0);
        private int now;
        private int next;
        private int base;
        private int top;
        private int members;
        private int stepsInAll;
        private boolean working;

        Machine(Shelf shelf) {
            this.shelf = shelf;
        }

        void clear() {
            forgetReport();
            stepsInAll = 0;
        }

        void forgetReport() {
            Arrays.fill(report, 0);
        }

        int reported(int what) {
            return what >= 0 && what < REPORTED ? report[what] : 0;
        }

        int failure() {
            return report[REPORT_FAILURE];
        }

        int stepsInAll() {
            return stepsInAll;
        }

        int valueKind() {
            return row.kindAt(top - 1);
        }

        long valueCore() {
            return row.coreAt(top - 1);
        }

        void work(Code first) {
            int mark = shelf.things.size();
            code = first;
            next = 0;
            base = 0;
            top = 0;
            members = 0;
            working = true;
            for (int turn = 0; turn < MOST_TURNS && working; turn++) {
                doNext();
            }
            if (failure() != 0) {
                shelf.things.dropFrom(mark);
            }
        }

        private void doNext() {
            now = next;
            next++;
            int deed = code.deedAt(now);
            if (deed < Code.NOTHING && !takeStep()) {
                return;
            }
            switch (deed) {
                case Code.BEGIN -> { }
                case Code.NUMBER -> push(Values.WHOLE, code.coreAt(now));
                case Code.RESULT -> pushResult(code.countAt(now));
                case Code.ARGUMENT -> pushFrom(row, base + code.countAt(now));
                case Code.VARIABLE -> pushVariable((int) code.coreAt(now));
                case Code.OPEN_CALL -> openCall((int) code.coreAt(now), code.countAt(now));
                case Code.NOTHING -> push(Values.NOTHING, 0);
                case Code.CALL -> call((int) code.coreAt(now), code.countAt(now));
                case Code.FIELD -> takeField(code.coreAt(now));
                case Code.NEGATE -> negate();
                case Code.BRANCH -> branch(code.countAt(now));
                case Code.JUMP -> next += code.countAt(now);
                case Code.RETURN -> leaveMember();
                default -> operate(deed);
            }
        }

        private boolean takeStep() {
            report[REPORT_STEPS]++;
            stepsInAll++;
            if (report[REPORT_STEPS] > MOST_STEPS) {
                fail(SPENT);
                return false;
            }
            return true;
        }

        private void fail(int failure) {
            report[REPORT_FAILURE] = failure;
            report[REPORT_SNIPPET] = code.owner();
            report[REPORT_PLACE] = code.placeAt(now);
            report[REPORT_MEMBERS] = members;
            working = false;
        }

        private void push(int kind, long core) {
            row.put(top, kind, core);
            top++;
        }

        private void pushFrom(Values from, int i) {
            push(from.kindAt(i), from.coreAt(i));
        }

        private void pushResult(int result) {
            if (shelf.hasResult(result)) {
                pushFrom(shelf.results, result);
            } else {
                fail(LACKING);
            }
        }

        private void pushVariable(int name) {
            if (shelf.names.formOf(name) == Snippet.VARIABLE) {
                pushFrom(shelf.variables, name);
            } else {
                fail(LACKING);
            }
        }

        private void openCall(int name, int given) {
            Snippet called = shelf.callable(name);
            if (called == null) {
                fail(LACKING);
            } else if (called.size() != given) {
                fail(COUNT);
            } else if (called.form() == Snippet.MEMBER && members >= MOST_MEMBERS) {
                fail(DEEP);
            }
        }

        /** The call was opened, so what it needs is there; only its parts had to be worked out first. */
        private void call(int name, int given) {
            Snippet called = shelf.callable(name);
            int first = top - given;
            if (called == null) {
                fail(LACKING);
            } else if (called.form() == Snippet.TYPE) {
                int thing = shelf.things.make(name, shelf.names.editionOf(name), row, first, given);
                top = first;
                push(Values.THING, thing);
            } else {
                enterMember(called.code(), first);
            }
        }

        private void enterMember(Code entered, int first) {
            if (members >= MOST_MEMBERS) {
                fail(DEEP);
                return;
            }
            callers[members] = code;
            returns[members] = next;
            bases[members] = base;
            members++;
            code = entered;
            next = 0;
            base = first;
        }

        private void leaveMember() {
            if (members <= 0 || members > MOST_MEMBERS || callers[members - 1] == null) {
                working = false;
                return;
            }
            int kind = valueKind();
            long core = valueCore();
            top = base;
            push(kind, core);
            members--;
            code = callers[members];
            next = returns[members];
            base = bases[members];
        }

        private void takeField(long name) {
            int kind = valueKind();
            if (kind != Values.THING) {
                fail(kind == Values.NOTHING ? NOTHING : KIND);
                return;
            }
            int thing = (int) valueCore();
            Snippet type = shelf.callable(shelf.things.typeOf(thing));
            if (type == null || shelf.isOld(thing)) {
                fail(OLD);
                return;
            }
            int field = type.partOf(name);
            if (field < 0) {
                fail(FIELD);
                return;
            }
            top--;
            push(shelf.things.fieldKind(thing, field), shelf.things.fieldCore(thing, field));
        }

        private void negate() {
            if (isWholeAhead()) {
                long core = valueCore();
                top--;
                push(Values.WHOLE, -core);
            }
        }

        private void branch(int distance) {
            if (isWholeAhead()) {
                if (valueCore() == 0) {
                    next += distance;
                }
                top--;
            }
        }

        private boolean isWholeAhead() {
            int kind = valueKind();
            if (kind != Values.WHOLE) {
                fail(kind == Values.NOTHING ? NOTHING : KIND);
            }
            return kind == Values.WHOLE;
        }

        private void operate(int sign) {
            int leftKind = row.kindAt(top - 2);
            int rightKind = valueKind();
            long left = row.coreAt(top - 2);
            long right = valueCore();
            if (leftKind == Values.NOTHING || rightKind == Values.NOTHING) {
                fail(NOTHING);
            } else if (leftKind != rightKind || leftKind == Values.THING && sign != '=') {
                fail(KIND);
            } else if (right == 0 && (sign == '/' || sign == '%')) {
                fail(ZERO);
            } else {
                top -= 2;
                push(Values.WHOLE, worked(sign, left, right));
            }
        }

        private static long worked(int sign, long left, long right) {
            return switch (sign) {
                case '+' -> left + right;
                case '-' -> left - right;
                case '*' -> left * right;
                case '/' -> right == 0 ? 0 : left / right;
                case '%' -> right == 0 ? 0 : left % right;
                case '<' -> left < right ? 1 : 0;
                default -> left == right ? 1 : 0;
            };
        }
    }
}
