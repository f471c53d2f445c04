/**
 * A house for a lazy language. Texts are read three times: by their grammar, by their rules, and, when both
 * find no fault, to build forms. A machine works forms out step by step, with cells and frames of its own, so that
 * no call needs new objects.
 */
public final class LazyForms {
    public static final int NONE = -1;

    private static final int REFUSED = -2;
    private static final int LEAST_ROOM = 10;
    private static final int MOST_ROOM = 1500;
    private static final int MOST_BYTES = 2000;
    private static final int MOST_TOKENS = MOST_BYTES + 1;
    private static final int MOST_STEPS = 20000;
    private static final int MOST_DEPTH = 9;
    private static final int BYTES_AT = 10;

    /** At most so many names stand at one place: a name's slot is how many stand outside of it. */
    private static final int SLOTS = 16;

    /** A thing is a tag and a value: a number; a maker alone; the index of a cell; the index of a definition. */
    private static final int NUMBER = 0;
    private static final int MAKER = 1;
    private static final int CELL = 2;
    private static final int DEFINITION = 3;

    private static final int NOTHING_ASKED = 0;
    private static final int GOING = 1;
    private static final int DONE = 2;
    private static final int HOLE = 3;
    private static final int WRONG = 4;
    private static final int FULL = 5;
    private static final int DEEP = 6;
    private static final int LONG = 7;

    private final Ints tape;
    private int taped;
    private final Definitions definitions;
    private final Reader reader;
    private final Machine machine;
    private boolean loaded;

    public LazyForms(int room) {
        Ints bytes = new Ints(MOST_BYTES);
        Forms forms = new Forms();
        Definitions named = new Definitions();
        tape = bytes;
        definitions = named;
        reader = new Reader(bytes, forms, named);
        machine = new Machine(forms, named, Math.max(LEAST_ROOM, Math.min(MOST_ROOM, room)));
        taped = 0;
        loaded = false;
    }

    public int feed(int a, int b, int c, int d, int e) {
        if (taped + 20 > MOST_BYTES) {
            return NONE;
        }
        tapeWord(a);
        tapeWord(b);
        tapeWord(c);
        tapeWord(d);
        tapeWord(e);
        return taped;
    }

    private void tapeWord(int word) {
        for (int shift = 24; shift >= 0; shift -= 8) {
            tape.set(taped, word >> shift & 255);
            taped++;
        }
    }

    public int load(int n) {
        if (n < 0 || n > taped) {
            return REFUSED;
        }
        taped = 0;
        if (!reader.read(n, true)) {
            return NONE;
        }
        machine.forget();
        loaded = true;
        return definitions.size();
    }

    public boolean ask(int n, int depth) {
        if (n < 0 || n > taped) {
            return false;
        }
        taped = 0;
        if (!loaded || depth < 1 || depth > MOST_DEPTH || !reader.read(n, false)) {
            return false;
        }
        machine.start(reader.question, depth);
        return true;
    }

    public int fault(int what) {
        switch (what) {
            case 0: return reader.faultKind;
            case 1: return reader.faultPlace;
            default: return NONE;
        }
    }

    public int run(int n) {
        if (n < 0 || n > MOST_STEPS || machine.state == NOTHING_ASKED) {
            return NONE;
        }
        for (int i = 0; i < n && machine.state == GOING; i++) {
            machine.step();
            machine.settle();
        }
        return machine.state;
    }

    public int about(int what) {
        switch (what) {
            case 0: return machine.state;
            case 1:
            case 2:
            case 3:
            case 4: return machine.counts.get(what);
            case 5: return machine.frames.size;
            case 6: return machine.frames.most;
            case 7: return machine.state >= HOLE ? machine.place : NONE;
            case 8: return machine.reached();
            case 9: return machine.screen.size;
            default: return NONE;
        }
    }

    public int octet(int i) {
        return i < machine.screen.size ? machine.screen.bytes.get(i) : NONE;
    }

    public int definition(int k, int what) {
        if (k < 0 || k >= definitions.size()) {
            return NONE;
        }
        switch (what) {
            case 0: return definitions.ownNames.get(k);
            case 1: return definitions.boxes.kind.get(k);
            case 2: return definitions.names.sizes.get(k);
            default: return what < BYTES_AT ? NONE : definitions.names.byteOf(k, what - BYTES_AT);
        }
    }

    private static long thing(int tag, int value) {
        return (long) tag << 32 | value & 0xFFFFFFFFL;
    }

    private static int tagOf(long thing) {
        return (int) (thing >> 32);
    }

    private static int valueOf(long thing) {
        return (int) thing;
    }

    private static int firstBits(int n) {
        return (1 << n) - 1;
    }

    /** A row that answers NONE outside of itself and takes nothing there, so that no index can fail. */
    private static final class Ints {
        private final int[] items;

        Ints(int size) {
            items = new int[Math.max(0, size)];
        }

        int get(int i) {
            return i >= 0 && i < items.length ? items[i] : NONE;
        }

        void set(int i, int item) {
            if (i >= 0 && i < items.length) {
                items[i] = item;
            }
        }

        void clear() {
            for (int i = 0; i < items.length; i++) {
                items[i] = 0;
            }
        }
    }

    /** Names by their bytes, in the order in which they came. */
    private static final class Names {
        private final Ints bytes;
        private final Ints starts;
        private final Ints sizes;
        private int size;

        Names(int most, int mostBytes) {
            bytes = new Ints(mostBytes);
            starts = new Ints(most);
            sizes = new Ints(most);
            size = 0;
        }

        void cut(int to) {
            size = Math.min(size, to);
        }

        private int room() {
            return size == 0 ? 0 : starts.get(size - 1) + sizes.get(size - 1);
        }

        int add(Ints text, int place, int length) {
            int start = room();
            for (int i = 0; i < length; i++) {
                bytes.set(start + i, text.get(place + i));
            }
            starts.set(size, start);
            sizes.set(size, length);
            size++;
            return size - 1;
        }

        void addWord(String word) {
            int start = room();
            for (int i = 0; i < word.length(); i++) {
                bytes.set(start + i, word.charAt(i));
            }
            starts.set(size, start);
            sizes.set(size, word.length());
            size++;
        }

        int find(Ints text, int place, int length) {
            for (int k = 0; k < size; k++) {
                if (sizes.get(k) == length && agrees(starts.get(k), text, place, length)) {
                    return k;
                }
            }
            return NONE;
        }

        private boolean agrees(int start, Ints text, int place, int length) {
            for (int i = 0; i < length; i++) {
                if (bytes.get(start + i) != text.get(place + i)) {
                    return false;
                }
            }
            return true;
        }

        int byteOf(int k, int i) {
            return i >= 0 && i < sizes.get(k) ? bytes.get(starts.get(k) + i) : NONE;
        }
    }

    /** The tokens of a text; behind one that begins no token there are none. */
    private static final class Tokens {
        static final int END = 0;
        static final int BAD = 1;
        static final int NAME = 2;
        static final int MAKER = 3;
        static final int NUMBER = 4;
        static final int LET = 5;
        static final int IN = 6;
        static final int CASE = 7;
        static final int OF = 8;
        static final int OPEN = 9;
        static final int CLOSE = 10;
        static final int OPEN_BRACE = 11;
        static final int CLOSE_BRACE = 12;
        static final int SEMICOLON = 13;
        static final int EQUALS = 14;
        static final int ARROW = 15;
        static final int LAMBDA = 16;
        static final int PLUS = 17;
        static final int MINUS = 18;
        static final int TIMES = 19;
        static final int OVER = 20;
        static final int LESS = 21;
        static final int AT_MOST = 22;
        static final int SAME = 23;
        static final int ANY = 24;

        private static final int MOST_NAME_BYTES = 12;
        private static final int MOST_DIGITS = 9;

        private final Ints text;
        private final Ints kinds;
        private final Ints places;
        private final Ints sizes;
        private int size;
        private int end;

        Tokens(Ints tape) {
            text = tape;
            kinds = new Ints(MOST_TOKENS);
            places = new Ints(MOST_TOKENS);
            sizes = new Ints(MOST_TOKENS);
            size = 0;
            end = 0;
        }

        void read(int n) {
            size = 0;
            end = n;
            int i = skipped(0);
            for (int turn = 0; turn < n && i < n; turn++) {
                int kind = kindAt(i);
                int length = lengthOf(kind, i);
                add(kind, i, length);
                if (kind == BAD) {
                    return;
                }
                i = skipped(i + length);
            }
            add(END, n, 0);
        }

        private void add(int kind, int place, int length) {
            kinds.set(size, kind);
            places.set(size, place);
            sizes.set(size, length);
            size++;
        }

        private int byteAt(int i) {
            return i < end ? text.get(i) : NONE;
        }

        private int skipped(int from) {
            int i = from;
            boolean passing = false;
            for (int turn = from; turn < end && i < end; turn++) {
                int c = byteAt(i);
                if (c == '\n') {
                    passing = false;
                } else if (c == '-' && byteAt(i + 1) == '-') {
                    passing = true;
                } else if (c != ' ' && !passing) {
                    return i;
                }
                i++;
            }
            return i;
        }

        private int kindAt(int i) {
            int c = byteAt(i);
            if (isDigit(c)) {
                int length = runOf(i, false);
                return length > MOST_DIGITS || length > 1 && c == '0' ? BAD : NUMBER;
            }
            if (isSmall(c) || isGreat(c)) {
                int length = runOf(i, true);
                if (length > MOST_NAME_BYTES) {
                    return BAD;
                }
                return isGreat(c) ? MAKER : wordAt(i, length);
            }
            return signAt(c, byteAt(i + 1));
        }

        private int wordAt(int i, int length) {
            if (spells(i, length, "let")) {
                return LET;
            }
            if (spells(i, length, "in")) {
                return IN;
            }
            if (spells(i, length, "case")) {
                return CASE;
            }
            return spells(i, length, "of") ? OF : NAME;
        }

        private boolean spells(int i, int length, String word) {
            if (word.length() != length) {
                return false;
            }
            for (int j = 0; j < length; j++) {
                if (byteAt(i + j) != word.charAt(j)) {
                    return false;
                }
            }
            return true;
        }

        private static int signAt(int c, int behind) {
            switch (c) {
                case '(': return OPEN;
                case ')': return CLOSE;
                case '{': return OPEN_BRACE;
                case '}': return CLOSE_BRACE;
                case ';': return SEMICOLON;
                case '\\': return LAMBDA;
                case '+': return PLUS;
                case '*': return TIMES;
                case '/': return OVER;
                case '_': return ANY;
                case '=': return behind == '=' ? SAME : EQUALS;
                case '-': return behind == '>' ? ARROW : MINUS;
                case '<': return behind == '=' ? AT_MOST : LESS;
                default: return BAD;
            }
        }

        private int lengthOf(int kind, int i) {
            switch (kind) {
                case NUMBER: return runOf(i, false);
                case NAME:
                case MAKER:
                case LET:
                case IN:
                case CASE:
                case OF: return runOf(i, true);
                case ARROW:
                case SAME:
                case AT_MOST: return 2;
                default: return 1;
            }
        }

        private int runOf(int from, boolean named) {
            int i = from;
            for (int turn = from; turn < end; turn++) {
                int c = byteAt(i);
                if (!isDigit(c) && !(named && (isSmall(c) || isGreat(c) || c == '_'))) {
                    break;
                }
                i++;
            }
            return i - from;
        }

        private static boolean isDigit(int c) {
            return c >= '0' && c <= '9';
        }

        private static boolean isSmall(int c) {
            return c >= 'a' && c <= 'z';
        }

        private static boolean isGreat(int c) {
            return c >= 'A' && c <= 'Z';
        }

        boolean same(int one, int other) {
            int length = sizes.get(one);
            if (length != sizes.get(other)) {
                return false;
            }
            for (int i = 0; i < length; i++) {
                if (text.get(places.get(one) + i) != text.get(places.get(other) + i)) {
                    return false;
                }
            }
            return true;
        }

        int numberOf(int token) {
            int number = 0;
            for (int i = 0; i < sizes.get(token); i++) {
                number = number * 10 + text.get(places.get(token) + i) - '0';
            }
            return number;
        }
    }

    /**
     * The forms of the program and, behind them, those of the question. While it is shut nothing is added, and what is
     * told of the form NONE is dropped: so the reader can judge a text with the same code that builds it.
     */
    private static final class Forms {
        static final int NAME = 0;
        static final int NUMBER = 1;
        static final int MAKER = 2;
        static final int LAMBDA = 3;
        static final int USE = 4;
        static final int LET = 5;
        static final int CASE = 6;
        static final int SIGN = 7;
        static final int ALT_MAKER = 8;
        static final int ALT_NUMBER = 9;
        static final int ALT_ANY = 10;

        /** A token makes at most one form, and two tokens together at most one use besides. */
        private static final int MOST_OF_A_TEXT = MOST_TOKENS * 3 / 2;
        private static final int MOST_MAKERS_OF_A_TEXT = MOST_BYTES / 2;

        static final int FALSE_MAKER = 0;
        static final int TRUE_MAKER = 1;

        private final Ints kind;
        private final Ints place;
        private final Ints value;
        private final Ints mask;
        private final Ints first;
        private final Ints second;
        private final Ints next;
        private final Ints count;
        private final Ints base;
        private final Ints cost;
        private final Names makers;
        private int size;
        private int programSize;
        private int programMakers;
        private boolean shut;

        Forms() {
            int most = 2 * MOST_OF_A_TEXT;
            kind = new Ints(most);
            place = new Ints(most);
            value = new Ints(most);
            mask = new Ints(most);
            first = new Ints(most);
            second = new Ints(most);
            next = new Ints(most);
            count = new Ints(most);
            base = new Ints(most);
            cost = new Ints(most);
            makers = new Names(2 * MOST_MAKERS_OF_A_TEXT + 2, 2 * MOST_BYTES + 9);
            size = 0;
            programSize = 0;
            programMakers = 0;
            shut = true;
        }

        void openFor(boolean program) {
            shut = false;
            if (program) {
                size = 0;
                makers.cut(0);
                makers.addWord("False");
                makers.addWord("True");
            } else {
                size = programSize;
                makers.cut(programMakers);
            }
        }

        void shutBehind(boolean program) {
            shut = true;
            if (program) {
                programSize = size;
                programMakers = makers.size;
            }
        }

        int add(int itsKind, int itsPlace) {
            if (shut) {
                return NONE;
            }
            int form = size;
            size++;
            kind.set(form, itsKind);
            place.set(form, itsPlace);
            value.set(form, 0);
            mask.set(form, 0);
            first.set(form, NONE);
            second.set(form, NONE);
            next.set(form, NONE);
            count.set(form, 0);
            base.set(form, 0);
            cost.set(form, 0);
            return form;
        }

        int name(int itsPlace, int meaning) {
            int form = add(NAME, itsPlace);
            value.set(form, meaning);
            mask.set(form, meaning < SLOTS ? 1 << meaning : 0);
            return form;
        }

        int lambda(int itsPlace, int itsBase, int names, int body) {
            int form = add(LAMBDA, itsPlace);
            base.set(form, itsBase);
            count.set(form, names);
            first.set(form, body);
            mask.set(form, mask.get(body) & firstBits(itsBase));
            cost.set(form, 1);
            return form;
        }

        int sign(int itsPlace, int itsSign, int left, int right) {
            int form = add(SIGN, itsPlace);
            value.set(form, itsSign);
            first.set(form, left);
            second.set(form, right);
            mask.set(form, mask.get(left) | mask.get(right));
            return form;
        }

        /** Puts a form behind the last one of a parent's row; answers it, the last one now. */
        int adopt(int parent, int last, int child) {
            if (last == NONE) {
                first.set(parent, child);
            } else {
                next.set(last, child);
            }
            count.set(parent, count.get(parent) + 1);
            mask.set(parent, mask.get(parent) | mask.get(child));
            return child;
        }

        int costToMake(int form) {
            int itsKind = kind.get(form);
            return itsKind == NUMBER || itsKind == MAKER || itsKind == LAMBDA ? cost.get(form) : 1;
        }

        int costToTake(int form) {
            return kind.get(form) == NAME ? 0 : costToMake(form);
        }

        void addCost(int form, int more) {
            cost.set(form, cost.get(form) + more);
        }

        boolean isMakerAlone(int form) {
            return kind.get(form) == MAKER && count.get(form) == 0;
        }
    }

    /** The definitions: the box of each tells what it is, its form, and the thing that came of it. */
    private static final class Definitions {
        static final int MOST = 40;
        private static final int MOST_BYTES_OF_NAMES = MOST * Tokens.MOST_NAME_BYTES;

        private final Names names;
        private final Ints ownNames;
        private final Boxes boxes;

        Definitions() {
            names = new Names(MOST, MOST_BYTES_OF_NAMES);
            ownNames = new Ints(MOST);
            boxes = new Boxes(MOST);
        }

        int size() {
            return names.size;
        }

        void tell(int k, int itsNames, int form) {
            ownNames.set(k, itsNames);
            boxes.label(k, itsNames > 0 ? Boxes.FUNCTION : Boxes.WAITING, form, 0);
        }
    }

    /** Reads a text along the grammar, one method for each of its rules; the ones that take a depth are recursive. */
    private static final class Reader {
        private static final int GRAMMAR = 0;
        private static final int RULES = 1;
        private static final int BUILD = 2;

        private static final int BAD_TOKEN = 1;
        private static final int BAD_RULE = 2;
        private static final int TOO_DEEP = 3;

        private static final int MOST_OPEN = 20;
        private static final int MOST_NAMES = 6;
        private static final int MOST_ATOMS = 6;
        private static final int MOST_BINDINGS = 6;
        private static final int MOST_ALTS = 8;

        private static final int COMPARE = 0;
        private static final int SUM = 1;
        private static final int PRODUCT = 2;

        private final Tokens tokens;
        private final Forms forms;
        private final Definitions definitions;
        private final Ints scope;
        private int standing;
        /** Of the name of a definition or binding: the next one of the same program or let. */
        private final Ints follower;
        private int pass;
        private boolean program;
        private int at;
        private int question;
        private int faultKind;
        private int faultPlace;

        Reader(Ints tape, Forms itsForms, Definitions itsDefinitions) {
            tokens = new Tokens(tape);
            forms = itsForms;
            definitions = itsDefinitions;
            scope = new Ints(MOST_TOKENS);
            follower = new Ints(MOST_TOKENS);
            faultKind = NONE;
            faultPlace = NONE;
        }

        /** Reads a text by its grammar, by its rules and then to build its forms, as long as it has no fault. */
        boolean read(int n, boolean isProgram) {
            tokens.read(n);
            program = isProgram;
            faultKind = 0;
            faultPlace = NONE;
            for (int turn = GRAMMAR; turn <= BUILD && !failed(); turn++) {
                begin(turn);
                int previous = NONE;
                for (int k = 0; program && k < MOST_TOKENS && !failed() && kind() != Tokens.END; k++) {
                    chain(previous);
                    previous = at;
                    oneDefinition(k);
                    expect(Tokens.SEMICOLON);
                }
                if (!program) {
                    question = ex(1);
                }
                expect(Tokens.END);
            }
            if (failed()) {
                return false;
            }
            forms.shutBehind(program);
            return true;
        }

        private void begin(int itsPass) {
            pass = itsPass;
            at = 0;
            standing = 0;
            if (pass != BUILD) {
                return;
            }
            forms.openFor(program);
            if (program) {
                definitions.names.cut(0);
            }
        }

        private boolean failed() {
            return faultKind != 0;
        }

        private int fail(int kind) {
            if (!failed()) {
                faultKind = kind;
                faultPlace = tokens.places.get(at);
            }
            return NONE;
        }

        /** The rules are looked at when the whole text keeps to the grammar. */
        private void demand(boolean kept) {
            if (pass == RULES && !kept) {
                fail(BAD_RULE);
            }
        }

        private int kind() {
            return tokens.kinds.get(at);
        }

        private void expect(int kind) {
            if (kind() == kind) {
                at++;
            } else {
                fail(BAD_TOKEN);
            }
        }

        private void chain(int previous) {
            if (pass == GRAMMAR) {
                follower.set(previous, at);
                follower.set(at, NONE);
            }
        }

        private void oneDefinition(int k) {
            demand(k < Definitions.MOST && (pass != RULES || definedHere(at) == k));
            int name = at;
            expect(Tokens.NAME);
            int names = ownNames();
            int start = at;
            expect(Tokens.EQUALS);
            int body = ex(1);
            standing = 0;
            if (pass == BUILD) {
                definitions.names.add(tokens.text, tokens.places.get(name), tokens.sizes.get(name));
                int form = names == 0 ? body : forms.lambda(tokens.places.get(start), 0, names, body);
                definitions.tell(k, names, form);
            }
        }

        /** The names behind that of a definition or binding, or behind a \. */
        private int ownNames() {
            int from = standing;
            int names = 0;
            for (int i = 0; i < MOST_TOKENS && !failed() && kind() == Tokens.NAME; i++) {
                demand(names < MOST_NAMES);
                stand(from);
                names++;
            }
            return names;
        }

        /** The name that comes stands from here on, beside those of its row, which began at from. */
        private void stand(int from) {
            demand(standing < SLOTS && !standsBetween(from, standing));
            if (pass != GRAMMAR) {
                scope.set(standing, at);
                standing++;
            }
            at++;
        }

        private boolean standsBetween(int from, int to) {
            for (int i = from; i < to; i++) {
                if (tokens.same(scope.get(i), at)) {
                    return true;
                }
            }
            return false;
        }

        private static boolean beginsAtom(int kind) {
            return kind == Tokens.NAME || kind == Tokens.NUMBER || kind == Tokens.MAKER || kind == Tokens.OPEN;
        }

        private int ex(int depth) {
            if (failed()) {
                return NONE;
            }
            int kind = kind();
            boolean begins = kind == Tokens.LAMBDA || kind == Tokens.LET || kind == Tokens.CASE || beginsAtom(kind);
            if (!begins) {
                return fail(BAD_TOKEN);
            }
            if (depth > MOST_OPEN) {
                return fail(TOO_DEEP);
            }
            switch (kind) {
                case Tokens.LAMBDA: return lambda(depth);
                case Tokens.LET: return let(depth);
                case Tokens.CASE: return choice(depth);
                default: return signs(COMPARE, depth);
            }
        }

        private int lambda(int depth) {
            int start = at;
            int from = standing;
            expect(Tokens.LAMBDA);
            if (kind() != Tokens.NAME) {
                return fail(BAD_TOKEN);
            }
            int names = ownNames();
            expect(Tokens.ARROW);
            int body = ex(depth + 1);
            standing = from;
            return forms.lambda(tokens.places.get(start), from, names, body);
        }

        private int let(int depth) {
            int from = standing;
            int form = forms.add(Forms.LET, tokens.places.get(at));
            forms.base.set(form, from);
            expect(Tokens.LET);
            standAll();
            int previous = NONE;
            int last = NONE;
            for (int i = 0; i < MOST_TOKENS && !failed(); i++) {
                chain(previous);
                previous = at;
                last = forms.adopt(form, last, binding(i, from, depth));
                forms.addCost(form, forms.costToMake(last));
                if (kind() != Tokens.SEMICOLON) {
                    break;
                }
                expect(Tokens.SEMICOLON);
            }
            expect(Tokens.IN);
            int body = ex(depth + 1);
            standing = from;
            forms.second.set(form, body);
            forms.mask.set(form, (forms.mask.get(form) | forms.mask.get(body)) & firstBits(from));
            return form;
        }

        /** All names of a let stand at each of its bindings, so they stand ahead of the first one. */
        private void standAll() {
            if (pass == GRAMMAR) {
                return;
            }
            int name = at;
            for (int i = 0; i < MOST_TOKENS && name != NONE; i++) {
                scope.set(standing, name);
                standing++;
                name = follower.get(name);
            }
        }

        private int binding(int i, int from, int depth) {
            demand(i < MOST_BINDINGS && from + i < SLOTS && !standsBetween(from, from + i));
            expect(Tokens.NAME);
            int own = standing;
            int names = ownNames();
            int start = at;
            expect(Tokens.EQUALS);
            int body = ex(depth + 1);
            standing = own;
            return names == 0 ? body : forms.lambda(tokens.places.get(start), own, names, body);
        }

        private int choice(int depth) {
            int form = forms.add(Forms.CASE, tokens.places.get(at));
            expect(Tokens.CASE);
            int chosen = ex(depth + 1);
            expect(Tokens.OF);
            expect(Tokens.OPEN_BRACE);
            int last = NONE;
            for (int i = 0; i < MOST_TOKENS && !failed(); i++) {
                demand(i < MOST_ALTS);
                last = forms.adopt(form, last, alt(depth));
                if (kind() != Tokens.SEMICOLON) {
                    break;
                }
                expect(Tokens.SEMICOLON);
            }
            expect(Tokens.CLOSE_BRACE);
            forms.second.set(form, forms.first.get(form));
            forms.first.set(form, chosen);
            forms.value.set(form, forms.mask.get(form));
            forms.mask.set(form, forms.mask.get(form) | forms.mask.get(chosen));
            return form;
        }

        private int alt(int depth) {
            int from = standing;
            int form = pattern();
            expect(Tokens.ARROW);
            int body = ex(depth + 1);
            standing = from;
            forms.base.set(form, from);
            forms.first.set(form, body);
            forms.mask.set(form, forms.mask.get(body) & firstBits(from));
            return form;
        }

        /** A name or _ alone is read as the one part of a maker is. The second value has a bit for each part's name. */
        private int pattern() {
            int kind = kind();
            if (kind == Tokens.MINUS || kind == Tokens.NUMBER) {
                return numberPattern();
            }
            boolean withMaker = kind == Tokens.MAKER;
            if (!withMaker && !isPart(kind)) {
                return fail(BAD_TOKEN);
            }
            int form = forms.add(withMaker ? Forms.ALT_MAKER : Forms.ALT_ANY, tokens.places.get(at));
            if (withMaker) {
                forms.value.set(form, makerOf(at));
                at++;
            }
            int most = withMaker ? MOST_TOKENS : 1;
            int from = standing;
            int parts = 0;
            int named = 0;
            for (int i = 0; i < most && !failed() && isPart(kind()); i++) {
                demand(parts < MOST_NAMES);
                if (kind() == Tokens.NAME) {
                    stand(from);
                    named |= 1 << parts;
                } else {
                    at++;
                }
                parts++;
            }
            forms.count.set(form, parts);
            forms.second.set(form, named);
            return form;
        }

        private static boolean isPart(int kind) {
            return kind == Tokens.NAME || kind == Tokens.ANY;
        }

        private int numberPattern() {
            int factor = 1;
            if (kind() == Tokens.MINUS) {
                factor = -1;
                at++;
            }
            int form = forms.add(Forms.ALT_NUMBER, tokens.places.get(at));
            forms.value.set(form, factor * tokens.numberOf(at));
            expect(Tokens.NUMBER);
            return form;
        }

        private static int levelOf(int kind) {
            switch (kind) {
                case Tokens.LESS:
                case Tokens.AT_MOST:
                case Tokens.SAME: return COMPARE;
                case Tokens.PLUS:
                case Tokens.MINUS: return SUM;
                case Tokens.TIMES:
                case Tokens.OVER: return PRODUCT;
                default: return NONE;
            }
        }

        private int signs(int level, int depth) {
            int form = level == PRODUCT ? use(depth) : signs(level + 1, depth);
            int most = level == COMPARE ? 1 : MOST_TOKENS;
            for (int i = 0; i < most && !failed() && levelOf(kind()) == level; i++) {
                int sign = at;
                at++;
                int right = level == PRODUCT ? use(depth) : signs(level + 1, depth);
                form = forms.sign(tokens.places.get(sign), tokens.kinds.get(sign), form, right);
            }
            return form;
        }

        private int use(int depth) {
            int start = at;
            int form = atom(depth);
            int last = NONE;
            if (!beginsAtom(kind()) || failed()) {
                return form;
            }
            if (tokens.kinds.get(start) == Tokens.MAKER) {
                forms.addCost(form, 1);
            } else {
                int head = form;
                form = forms.add(Forms.USE, tokens.places.get(start));
                last = forms.adopt(form, NONE, head);
            }
            for (int i = 0; i < MOST_TOKENS && !failed() && beginsAtom(kind()); i++) {
                demand(i < MOST_ATOMS);
                last = forms.adopt(form, last, atom(depth));
                forms.addCost(form, forms.costToTake(last));
            }
            return form;
        }

        private int atom(int depth) {
            int token = at;
            int form = NONE;
            switch (kind()) {
                case Tokens.NAME:
                    form = forms.name(tokens.places.get(token), meaning());
                    break;
                case Tokens.NUMBER:
                    form = forms.add(Forms.NUMBER, tokens.places.get(token));
                    forms.value.set(form, tokens.numberOf(token));
                    break;
                case Tokens.MAKER:
                    form = forms.add(Forms.MAKER, tokens.places.get(token));
                    forms.value.set(form, makerOf(token));
                    break;
                case Tokens.OPEN:
                    at++;
                    form = ex(depth + 1);
                    expect(Tokens.CLOSE);
                    return form;
                default:
                    return fail(BAD_TOKEN);
            }
            at++;
            return form;
        }

        private int makerOf(int token) {
            if (pass != BUILD) {
                return NONE;
            }
            int start = tokens.places.get(token);
            int length = tokens.sizes.get(token);
            int maker = forms.makers.find(tokens.text, start, length);
            return maker != NONE ? maker : forms.makers.add(tokens.text, start, length);
        }

        /** What the name that comes stands for: its slot, or behind all slots its definition. */
        private int meaning() {
            if (pass == GRAMMAR) {
                return NONE;
            }
            for (int slot = standing - 1; slot >= 0; slot--) {
                if (tokens.same(scope.get(slot), at)) {
                    return slot;
                }
            }
            int length = tokens.sizes.get(at);
            int k = program ? definedHere(at) : definitions.names.find(tokens.text, tokens.places.get(at), length);
            demand(k != NONE);
            return SLOTS + k;
        }

        /** A program's first definition has its name at the first token. */
        private int definedHere(int token) {
            int name = 0;
            for (int k = 0; k < MOST_TOKENS && name != NONE; k++) {
                if (tokens.same(name, token)) {
                    return k;
                }
                name = follower.get(name);
            }
            return NONE;
        }
    }

    /** Boxes: each has a kind, a form and up to 16 things; the bits of its mask tell which of these it holds. */
    private static final class Boxes {
        /** The kinds of things in boxes; the first four are what a definition can be. */
        static final int FUNCTION = 1;
        static final int WAITING = 2;
        static final int BEGUN = 3;
        static final int FINISHED = 4;
        static final int HALF = 5;
        static final int MADE = 6;

        private final Ints kind;
        private final Ints form;
        private final Ints mask;
        private final long[] things;

        Boxes(int count) {
            kind = new Ints(count);
            form = new Ints(count);
            mask = new Ints(count);
            things = new long[Math.max(0, count) * SLOTS];
        }

        void label(int box, int itsKind, int itsForm, int itsMask) {
            kind.set(box, itsKind);
            form.set(box, itsForm);
            mask.set(box, itsMask);
        }

        long thing(int box, int slot) {
            int i = box * SLOTS + slot;
            return slot >= 0 && slot < SLOTS && i >= 0 && i < things.length ? things[i] : 0L;
        }

        void put(int box, int slot, long thing) {
            int i = box * SLOTS + slot;
            if (slot >= 0 && slot < SLOTS && i >= 0 && i < things.length) {
                things[i] = thing;
            }
        }

        void copy(Boxes from, int fromBox, int box, int these) {
            for (int slot = 0; slot < SLOTS && these >> slot != 0; slot++) {
                if ((these >> slot & 1) != 0) {
                    put(box, slot, from.thing(fromBox, slot));
                }
            }
        }
    }

    /**
     * The cells. Those that are in use are at least the ones that can be reached, so these need to be counted only when
     * the former would pass the room; behind a count the others are free again.
     */
    private static final class Cells {
        private final int room;
        private final Boxes boxes;
        private final Ints free;
        private int freeSize;
        private final Ints marks;
        private int mark;
        private final Ints pending;
        private int pendingSize;

        Cells(int itsRoom) {
            room = itsRoom;
            boxes = new Boxes(itsRoom);
            free = new Ints(itsRoom);
            marks = new Ints(itsRoom);
            pending = new Ints(itsRoom);
            mark = 0;
            freeSize = 0;
            pendingSize = 0;
        }

        int used() {
            return room - freeSize;
        }

        int take() {
            freeSize = Math.max(0, freeSize - 1);
            return free.get(freeSize);
        }

        /** From now on no cell is reached but those that reachFrom() is told of. */
        void forgetReached() {
            mark++;
            pendingSize = 0;
        }

        /** Whoever holds one that is done holds what came of it from now on, so that the done one is free. */
        void reachFrom(Boxes from, int box) {
            int held = from.mask.get(box);
            for (int slot = 0; slot < SLOTS && held >> slot != 0; slot++) {
                long thing = from.thing(box, slot);
                if ((held >> slot & 1) == 0 || tagOf(thing) != CELL) {
                    continue;
                }
                if (boxes.kind.get(valueOf(thing)) == Boxes.FINISHED) {
                    thing = boxes.thing(valueOf(thing), 0);
                    from.put(box, slot, thing);
                }
                if (tagOf(thing) == CELL && marks.get(valueOf(thing)) != mark) {
                    marks.set(valueOf(thing), mark);
                    pending.set(pendingSize, valueOf(thing));
                    pendingSize++;
                }
            }
        }

        /** A cell that is reached, but from which nothing was come to so far. */
        int takePending() {
            pendingSize = Math.max(0, pendingSize - 1);
            return pending.get(pendingSize);
        }

        void freeOthers() {
            freeSize = 0;
            for (int cell = 0; cell < room; cell++) {
                if (marks.get(cell) != mark) {
                    free.set(freeSize, cell);
                    freeSize++;
                }
            }
        }
    }

    /** The frames, the latest one at the top. */
    private static final class Frames {
        static final int MOST = 400;
        static final int SHOWN = 0;
        static final int WANTED = 1;
        static final int THINGS = 2;
        static final int ALTS = 3;
        static final int RIGHT = 4;
        static final int LEFT = 5;

        private final Boxes boxes;
        private int size;
        private int most;

        Frames() {
            boxes = new Boxes(MOST);
            size = 0;
            most = 0;
        }

        void clear() {
            size = 0;
            most = 0;
        }

        int top() {
            return size - 1;
        }

        boolean push(int kind, int form, int mask) {
            if (size >= MOST) {
                return false;
            }
            boxes.label(size, kind, form, mask);
            size++;
            most = Math.max(most, size);
            return true;
        }

        void pop() {
            size = Math.max(0, size - 1);
        }
    }

    /** The bytes that were shown. */
    private static final class Screen {
        private static final int MOST = 1000;

        private final Ints bytes;
        private int size;

        Screen() {
            bytes = new Ints(MOST);
            size = 0;
        }

        boolean put(int octet) {
            if (size >= MOST) {
                return false;
            }
            bytes.set(size, octet);
            size++;
            return true;
        }
    }

    /** Works a question out: a step works out the next ex or part; then things come back until another one is next. */
    private static final class Machine {
        private static final int STEPS = 1;
        private static final int CELLS_MADE = 2;
        private static final int BECAME_DONE = 3;
        private static final int CALLS = 4;
        private static final int COUNTS = 5;

        /** The desk's boxes: what the names of the next ex stand for; things on their way to somewhere else. */
        private static final int STANDING = 0;
        private static final int HELD = 1;

        private static final int MOST_ALTS = Reader.MOST_ALTS;
        private static final int MOST_ATOMS = Reader.MOST_ATOMS + 1;
        private static final int MOST_BINDINGS = Reader.MOST_BINDINGS;
        /** A text with more ex in one another is refused, so nothing is made more deeply. */
        private static final int MOST_INSIDE = Reader.MOST_OPEN;

        private final Forms forms;
        private final Definitions definitions;
        private final Cells cells;
        private final Frames frames;
        private final Screen screen;
        private final Boxes desk;
        private final Ints counts;
        private int state;
        private int depth;
        private int place;
        /** The ex that is next; NONE when a part is, which is held then. */
        private int next;
        private boolean coming;
        private long back;

        Machine(Forms itsForms, Definitions itsDefinitions, int room) {
            forms = itsForms;
            definitions = itsDefinitions;
            cells = new Cells(room);
            frames = new Frames();
            screen = new Screen();
            desk = new Boxes(2);
            counts = new Ints(COUNTS);
            state = NOTHING_ASKED;
            depth = 0;
            place = NONE;
            next = NONE;
            coming = false;
            back = 0L;
        }

        /** Another program comes. The cells of the old one are found to be free when room is short. */
        void forget() {
            clear(NOTHING_ASKED);
        }

        void start(int ex, int itsDepth) {
            clear(GOING);
            depth = itsDepth;
            frames.push(Frames.SHOWN, NONE, 0);
            workOut(ex);
        }

        private void clear(int itsState) {
            state = itsState;
            place = NONE;
            next = NONE;
            coming = false;
            desk.mask.set(HELD, 0);
            counts.clear();
            frames.clear();
            screen.size = 0;
        }

        private void end(int itsState) {
            state = itsState;
            frames.size = 0;
            coming = false;
        }

        private void count(int what, int more) {
            counts.set(what, counts.get(what) + more);
        }

        private void workOut(int ex) {
            next = ex;
            coming = false;
        }

        private void comeBack(long thing) {
            next = NONE;
            back = thing;
            coming = true;
        }

        void step() {
            count(STEPS, 1);
            if (next == NONE) {
                place = NONE;
                want(desk.thing(HELD, 0));
                return;
            }
            int ex = next;
            place = forms.place.get(ex);
            switch (forms.kind.get(ex)) {
                case Forms.NAME:
                    want(standsFor(ex));
                    break;
                case Forms.USE:
                    use(ex);
                    break;
                case Forms.LET:
                    let(ex);
                    break;
                case Forms.CASE:
                    workOutFirst(ex, Frames.ALTS, forms.value.get(ex));
                    break;
                case Forms.SIGN:
                    workOutFirst(ex, Frames.RIGHT, forms.mask.get(forms.second.get(ex)));
                    break;
                default:
                    if (hasRoom(forms.cost.get(ex))) {
                        comeBack(make(ex, 0));
                    }
            }
        }

        private void workOutFirst(int ex, int kind, int mask) {
            if (push(kind, ex, mask)) {
                frames.boxes.copy(desk, STANDING, frames.top(), mask);
                workOut(forms.first.get(ex));
            }
        }

        private boolean push(int kind, int form, int mask) {
            if (frames.push(kind, form, mask)) {
                return true;
            }
            end(DEEP);
            return false;
        }

        private long standsFor(int name) {
            int meaning = forms.value.get(name);
            return meaning < SLOTS ? desk.thing(STANDING, meaning) : thing(DEFINITION, meaning - SLOTS);
        }

        private Boxes homeOf(long thing) {
            return tagOf(thing) == DEFINITION ? definitions.boxes : cells.boxes;
        }

        /** What it is, if it lies in a box; NONE for numbers and makers alone. */
        private int kindOf(long thing) {
            int tag = tagOf(thing);
            return tag == CELL || tag == DEFINITION ? homeOf(thing).kind.get(valueOf(thing)) : NONE;
        }

        private void want(long thing) {
            desk.mask.set(HELD, 0);
            switch (kindOf(thing)) {
                case Boxes.WAITING:
                    begin(thing);
                    break;
                case Boxes.BEGUN:
                    end(HOLE);
                    break;
                case Boxes.FINISHED:
                    comeBack(homeOf(thing).thing(valueOf(thing), 0));
                    break;
                default:
                    comeBack(thing);
            }
        }

        private void begin(long waiting) {
            if (!push(Frames.WANTED, NONE, 1)) {
                return;
            }
            frames.boxes.put(frames.top(), 0, waiting);
            Boxes home = homeOf(waiting);
            int box = valueOf(waiting);
            int ex = home.form.get(box);
            desk.copy(home, box, STANDING, home.mask.get(box));
            home.label(box, Boxes.BEGUN, NONE, 0);
            workOut(ex);
        }

        private void use(int ex) {
            if (!hasRoom(forms.cost.get(ex))) {
                return;
            }
            int head = forms.first.get(ex);
            int atom = forms.next.get(head);
            int things = 0;
            for (int i = 0; i < MOST_ATOMS && atom != NONE; i++) {
                desk.put(HELD, i, takeAtom(atom, 0));
                atom = forms.next.get(atom);
                things++;
            }
            if (push(Frames.THINGS, things, firstBits(things))) {
                frames.boxes.copy(desk, HELD, frames.top(), firstBits(things));
                workOut(head);
            }
        }

        /** The bindings may stand for each other, so each has its thing ahead of what the first one holds. */
        private void let(int ex) {
            if (!hasRoom(forms.cost.get(ex))) {
                return;
            }
            int base = forms.base.get(ex);
            int binding = forms.first.get(ex);
            for (int i = 0; i < MOST_BINDINGS && binding != NONE; i++) {
                desk.put(STANDING, base + i, reserve(binding));
                binding = forms.next.get(binding);
            }
            binding = forms.first.get(ex);
            for (int i = 0; i < MOST_BINDINGS && binding != NONE; i++) {
                fill(desk.thing(STANDING, base + i), binding, 0);
                binding = forms.next.get(binding);
            }
            workOut(forms.second.get(ex));
        }

        private long make(int ex, int inside) {
            long made = reserve(ex);
            fill(made, ex, inside);
            return made;
        }

        private long reserve(int ex) {
            if (forms.kind.get(ex) == Forms.NUMBER) {
                return thing(NUMBER, forms.value.get(ex));
            }
            if (forms.isMakerAlone(ex)) {
                return thing(MAKER, forms.value.get(ex));
            }
            return thing(CELL, cells.take());
        }

        private void fill(long reserved, int ex, int inside) {
            if (tagOf(reserved) != CELL || inside > MOST_INSIDE) {
                return;
            }
            int cell = valueOf(reserved);
            int kind = forms.kind.get(ex);
            if (kind != Forms.MAKER) {
                int mask = forms.mask.get(ex);
                cells.boxes.label(cell, kind == Forms.LAMBDA ? Boxes.FUNCTION : Boxes.WAITING, ex, mask);
                cells.boxes.copy(desk, STANDING, cell, mask);
                return;
            }
            cells.boxes.label(cell, Boxes.MADE, forms.value.get(ex), firstBits(forms.count.get(ex)));
            int atom = forms.first.get(ex);
            for (int i = 0; i < MOST_ATOMS && atom != NONE; i++) {
                cells.boxes.put(cell, i, takeAtom(atom, inside + 1));
                atom = forms.next.get(atom);
            }
        }

        private long takeAtom(int atom, int inside) {
            return forms.kind.get(atom) == Forms.NAME ? standsFor(atom) : make(atom, inside);
        }

        private boolean hasRoom(int more) {
            if (cells.used() + more > cells.room && reached() + more > cells.room) {
                end(FULL);
                return false;
            }
            count(CELLS_MADE, more);
            return true;
        }

        /** How many cells are reached; the others are free then. */
        private int reached() {
            cells.forgetReached();
            if (state == GOING) {
                desk.mask.set(STANDING, next == NONE ? 0 : forms.mask.get(next));
                cells.reachFrom(desk, STANDING);
                cells.reachFrom(desk, HELD);
                for (int frame = 0; frame < frames.size; frame++) {
                    cells.reachFrom(frames.boxes, frame);
                }
            }
            for (int k = 0; k < definitions.size(); k++) {
                cells.reachFrom(definitions.boxes, k);
            }
            for (int i = 0; i < cells.room && cells.pendingSize > 0; i++) {
                cells.reachFrom(cells.boxes, cells.takePending());
            }
            cells.freeOthers();
            return cells.used();
        }

        /** Things come back as far as they can. A frame goes at each turn, but for few that show. */
        void settle() {
            for (int turn = 0; turn < 2 * Frames.MOST && coming; turn++) {
                switch (frames.boxes.kind.get(frames.top())) {
                    case Frames.WANTED:
                        finish();
                        break;
                    case Frames.THINGS:
                        apply();
                        break;
                    case Frames.ALTS:
                        choose();
                        break;
                    case Frames.RIGHT:
                        workOutRight();
                        break;
                    case Frames.LEFT:
                        reckon();
                        break;
                    default:
                        show();
                }
            }
        }

        private void finish() {
            long waiting = frames.boxes.thing(frames.top(), 0);
            frames.pop();
            Boxes home = homeOf(waiting);
            home.label(valueOf(waiting), Boxes.FINISHED, NONE, 1);
            home.put(valueOf(waiting), 0, back);
            count(BECAME_DONE, 1);
        }

        private void apply() {
            int top = frames.top();
            int given = frames.boxes.form.get(top);
            int own = holdFunction();
            frames.pop();
            if (own == NONE) {
                end(WRONG);
                return;
            }
            for (int i = 0; i < given; i++) {
                desk.put(HELD, 1 + own + i, frames.boxes.thing(top, i));
            }
            long function = desk.thing(HELD, 0);
            int lambda = homeOf(function).form.get(valueOf(function));
            if (own + given < forms.count.get(lambda)) {
                makeHalf(own + given);
            } else {
                call(function, lambda, own + given);
            }
        }

        /** Holds the function that came back, and behind it the things it has: how many these are; NONE without one. */
        private int holdFunction() {
            int kind = kindOf(back);
            if (kind == Boxes.FUNCTION) {
                desk.put(HELD, 0, back);
                return 0;
            }
            if (kind == Boxes.HALF) {
                int mask = cells.boxes.mask.get(valueOf(back));
                desk.copy(cells.boxes, valueOf(back), HELD, mask);
                return Integer.bitCount(mask) - 1;
            }
            return NONE;
        }

        private void makeHalf(int things) {
            int mask = firstBits(1 + things);
            desk.mask.set(HELD, mask);
            if (hasRoom(1)) {
                int cell = cells.take();
                cells.boxes.label(cell, Boxes.HALF, NONE, mask);
                cells.boxes.copy(desk, HELD, cell, mask);
                comeBack(thing(CELL, cell));
            }
            desk.mask.set(HELD, 0);
        }

        private void call(long function, int lambda, int things) {
            count(CALLS, 1);
            Boxes home = homeOf(function);
            desk.copy(home, valueOf(function), STANDING, home.mask.get(valueOf(function)));
            int names = forms.count.get(lambda);
            int base = forms.base.get(lambda);
            for (int i = 0; i < names; i++) {
                desk.put(STANDING, base + i, desk.thing(HELD, 1 + i));
            }
            int left = things - names;
            if (left > 0 && push(Frames.THINGS, left, firstBits(left))) {
                for (int i = 0; i < left; i++) {
                    frames.boxes.put(frames.top(), i, desk.thing(HELD, 1 + names + i));
                }
            }
            workOut(forms.first.get(lambda));
        }

        private void choose() {
            int top = frames.top();
            int ex = frames.boxes.form.get(top);
            desk.copy(frames.boxes, top, STANDING, frames.boxes.mask.get(top));
            frames.pop();
            int alt = forms.second.get(ex);
            for (int i = 0; i < MOST_ALTS && alt != NONE; i++) {
                if (fits(alt)) {
                    standFor(alt);
                    workOut(forms.first.get(alt));
                    return;
                }
                alt = forms.next.get(alt);
            }
            end(WRONG);
        }

        private boolean fits(int alt) {
            int value = forms.value.get(alt);
            switch (forms.kind.get(alt)) {
                case Forms.ALT_ANY: return true;
                case Forms.ALT_NUMBER: return tagOf(back) == NUMBER && valueOf(back) == value;
                default: return makerOf(back) == value && partsOf(back) == firstBits(forms.count.get(alt));
            }
        }

        private int makerOf(long thing) {
            if (tagOf(thing) == MAKER) {
                return valueOf(thing);
            }
            return kindOf(thing) == Boxes.MADE ? cells.boxes.form.get(valueOf(thing)) : NONE;
        }

        /** A bit for each part of a made one. */
        private int partsOf(long made) {
            return tagOf(made) == MAKER ? 0 : cells.boxes.mask.get(valueOf(made));
        }

        private void standFor(int alt) {
            int named = forms.second.get(alt);
            int slot = forms.base.get(alt);
            if (forms.kind.get(alt) == Forms.ALT_ANY && named != 0) {
                desk.put(STANDING, slot, back);
                return;
            }
            for (int i = 0; i < forms.count.get(alt); i++) {
                if ((named >> i & 1) != 0) {
                    desk.put(STANDING, slot, cells.boxes.thing(valueOf(back), i));
                    slot++;
                }
            }
        }

        private void workOutRight() {
            int top = frames.top();
            if (tagOf(back) != NUMBER) {
                end(WRONG);
                return;
            }
            int ex = frames.boxes.form.get(top);
            desk.copy(frames.boxes, top, STANDING, frames.boxes.mask.get(top));
            frames.boxes.label(top, Frames.LEFT, ex, 0);
            frames.boxes.put(top, 0, back);
            workOut(forms.second.get(ex));
        }

        private void reckon() {
            int top = frames.top();
            int sign = forms.value.get(frames.boxes.form.get(top));
            int left = valueOf(frames.boxes.thing(top, 0));
            int right = valueOf(back);
            frames.pop();
            if (tagOf(back) != NUMBER || sign == Tokens.OVER && right == 0) {
                end(WRONG);
                return;
            }
            comeBack(result(left, sign, right));
        }

        private static long result(int left, int sign, int right) {
            switch (sign) {
                case Tokens.PLUS: return thing(NUMBER, left + right);
                case Tokens.MINUS: return thing(NUMBER, left - right);
                case Tokens.TIMES: return thing(NUMBER, left * right);
                case Tokens.OVER: return thing(NUMBER, right == 0 ? 0 : left / right);
                case Tokens.LESS: return truth(left < right);
                case Tokens.AT_MOST: return truth(left <= right);
                default: return truth(left == right);
            }
        }

        private static long truth(boolean holds) {
            return thing(MAKER, holds ? Forms.TRUE_MAKER : Forms.FALSE_MAKER);
        }

        /** Frames that show lie at the bottom, one a level, so that a part's level is how many lie below its own. */
        private void show() {
            int level = frames.top();
            int maker = makerOf(back);
            if (maker != NONE) {
                showMade(maker, partsOf(back), level);
            } else if (tagOf(back) == NUMBER) {
                printNumber(valueOf(back));
            } else {
                print('?');
            }
            showOn();
        }

        private void showMade(int maker, int parts, int level) {
            boolean bracketed = parts != 0 && level > 0;
            if (bracketed) {
                print('(');
            }
            printMaker(maker);
            if (state != GOING) {
                return;
            }
            if (parts != 0 && depth - level > 1) {
                if (push(Frames.SHOWN, NONE, parts)) {
                    frames.boxes.copy(cells.boxes, valueOf(back), frames.top(), parts);
                }
                return;
            }
            for (int i = 0; i < SLOTS && parts >> i != 0; i++) {
                print(' ');
                print('.');
            }
            if (bracketed) {
                print(')');
            }
        }

        /** Goes on behind what was shown: to the next part of the latest frame that has one. */
        private void showOn() {
            coming = false;
            for (int level = frames.top(); level > 0 && state == GOING; level--) {
                int parts = frames.boxes.mask.get(level);
                if (parts != 0) {
                    print(' ');
                    holdPart(level, parts);
                    return;
                }
                if (level > 1) {
                    print(')');
                }
                frames.pop();
            }
            if (state == GOING) {
                end(DONE);
            }
        }

        private void holdPart(int level, int parts) {
            int slot = Integer.bitCount((parts & -parts) - 1);
            desk.put(HELD, 0, frames.boxes.thing(level, slot));
            desk.mask.set(HELD, 1);
            frames.boxes.mask.set(level, parts & parts - 1);
            next = NONE;
        }

        private void print(int octet) {
            if (state == GOING && !screen.put(octet)) {
                end(LONG);
            }
        }

        private void printMaker(int maker) {
            for (int i = 0; i < forms.makers.sizes.get(maker); i++) {
                print(forms.makers.byteOf(maker, i));
            }
        }

        private void printNumber(int number) {
            long rest = Math.abs((long) number);
            if (number < 0) {
                print('-');
            }
            boolean begun = false;
            for (long unit = 1000000000L; unit > 0; unit /= 10) {
                int digit = (int) (rest / unit);
                begun = begun || digit != 0 || unit == 1;
                if (begun) {
                    print('0' + digit);
                }
                rest -= digit * unit;
            }
        }
    }
}
