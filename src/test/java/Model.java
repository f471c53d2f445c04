import java.util.ArrayList;
import java.util.Collections;
import java.util.HashMap;
import java.util.HashSet;
import java.util.IdentityHashMap;
import java.util.List;
import java.util.Map;
import java.util.Set;

/** A second house, as plain as can be: objects for everything, names by their text, and every count made anew. */
final class Model {
    /** A fault of a text. */
    static final class Fault extends RuntimeException {
        private static final long serialVersionUID = 1L;
        final int kind;
        final int place;

        Fault(int kind, int place) {
            this.kind = kind;
            this.place = place;
        }
    }

    /** The end of what was asked, other than DONE. */
    static final class End extends RuntimeException {
        private static final long serialVersionUID = 1L;
        final int state;

        End(int state) {
            this.state = state;
        }
    }

    record Token(String kind, String text, int place) { }

    /** A name with the place of its token; "_" too. */
    record Word(String text, int place) { }

    record Binding(Word name, List<Word> names, Node ex) { }

    record Alt(int place, String maker, Integer number, List<Word> names, Node ex) { }

    /** kind: name number maker lambda use let case sign. */
    static final class Node {
        final String kind;
        final int place;
        String text = "";
        int number;
        final List<Node> parts = new ArrayList<>();
        final List<Integer> partPlaces = new ArrayList<>();
        List<Word> names = new ArrayList<>();
        final List<Binding> bindings = new ArrayList<>();
        final List<Alt> alts = new ArrayList<>();
        private Set<String> free;

        Node(String kind, int place) {
            this.kind = kind;
            this.place = place;
        }

        Set<String> free() {
            if (free == null) {
                free = new HashSet<>();
                if (kind.equals("name")) {
                    free.add(text);
                }
                for (Node part : parts) {
                    free.addAll(part.free());
                }
                for (Binding b : bindings) {
                    free.addAll(without(b.ex.free(), b.names));
                }
                for (Word name : names) {
                    free.remove(name.text);
                }
                for (Binding b : bindings) {
                    free.remove(b.name.text);
                }
                free.addAll(altsFree());
            }
            return free;
        }

        Set<String> altsFree() {
            Set<String> all = new HashSet<>();
            for (Alt alt : alts) {
                all.addAll(without(alt.ex.free(), alt.names));
            }
            return all;
        }

        static Set<String> without(Set<String> some, List<Word> words) {
            Set<String> left = new HashSet<>(some);
            for (Word word : words) {
                left.remove(word.text);
            }
            return left;
        }
    }

    static final class Parser {
        final byte[] text;
        int at = 0;
        int open = 0;
        Token token;

        Parser(byte[] text) {
            this.text = text;
            next();
        }

        void next() {
            while (at < text.length) {
                if (text[at] == ' ' || text[at] == 10) {
                    at++;
                } else if (text[at] == '-' && at + 1 < text.length && text[at + 1] == '-') {
                    while (at < text.length && text[at] != 10) {
                        at++;
                    }
                } else {
                    break;
                }
            }
            String rest = new String(text, at, text.length - at, java.nio.charset.StandardCharsets.ISO_8859_1);
            if (rest.isEmpty()) {
                token = new Token("end", "", text.length);
                return;
            }
            String found = "";
            String kind = "bad";
            java.util.regex.Matcher m = java.util.regex.Pattern.compile(
                "([a-z][a-zA-Z0-9_]*)|([A-Z][a-zA-Z0-9_]*)|([0-9]+)|(->|<=|==|[(){};=\\\\+\\-*/<_])").matcher(rest);
            if (m.lookingAt()) {
                found = m.group();
                if (m.group(1) != null) {
                    kind = found.length() > 12 ? "bad" : List.of("let", "in", "case", "of").contains(found) ? found : "name";
                } else if (m.group(2) != null) {
                    kind = found.length() > 12 ? "bad" : "maker";
                } else if (m.group(3) != null) {
                    kind = found.length() > 9 || found.length() > 1 && found.startsWith("0") ? "bad" : "number";
                } else {
                    kind = found;
                }
            }
            token = new Token(kind, found, at);
            at += found.length();
        }

        boolean is(String... kinds) {
            return List.of(kinds).contains(token.kind);
        }

        Token expect(String... kinds) {
            if (!is(kinds)) {
                throw new Fault(1, token.place);
            }
            Token was = token;
            next();
            return was;
        }

        List<Binding> program() {
            List<Binding> all = new ArrayList<>();
            while (!is("end")) {
                all.add(binding());
                expect(";");
            }
            return all;
        }

        Node question() {
            Node node = ex();
            expect("end");
            return node;
        }

        List<Word> words(String... kinds) {
            List<Word> all = new ArrayList<>();
            while (is(kinds)) {
                all.add(word(kinds));
            }
            return all;
        }

        Word word(String... kinds) {
            Token t = expect(kinds);
            return new Word(t.text, t.place);
        }

        Binding binding() {
            Word name = word("name");
            List<Word> names = words("name");
            expect("=");
            return new Binding(name, names, ex());
        }

        Node ex() {
            if (!is("\\", "let", "case", "name", "number", "maker", "(")) {
                throw new Fault(1, token.place);
            }
            if (open == 20) {
                throw new Fault(3, token.place);
            }
            open++;
            Node node = openEx();
            open--;
            return node;
        }

        Node openEx() {
            if (is("\\")) {
                Node node = new Node("lambda", expect("\\").place);
                node.names.add(word("name"));
                node.names.addAll(words("name"));
                expect("->");
                node.parts.add(ex());
                return node;
            }
            if (is("let")) {
                Node node = new Node("let", expect("let").place);
                node.bindings.add(binding());
                while (is(";")) {
                    next();
                    node.bindings.add(binding());
                }
                expect("in");
                node.parts.add(ex());
                return node;
            }
            if (is("case")) {
                Node node = new Node("case", expect("case").place);
                node.parts.add(ex());
                expect("of");
                expect("{");
                node.alts.add(alt());
                while (is(";")) {
                    next();
                    node.alts.add(alt());
                }
                expect("}");
                return node;
            }
            Node left = sum();
            return is("<", "<=", "==") ? sign(left, expect("<", "<=", "=="), sum()) : left;
        }

        Alt alt() {
            int place = token.place;
            String maker = null;
            Integer number = null;
            List<Word> names = new ArrayList<>();
            if (is("maker")) {
                maker = expect("maker").text;
                names = words("name", "_");
            } else if (is("-")) {
                next();
                number = -Integer.parseInt(expect("number").text);
            } else if (is("number")) {
                number = Integer.parseInt(expect("number").text);
            } else {
                names.add(word("name", "_"));
            }
            expect("->");
            return new Alt(place, maker, number, names, ex());
        }

        static Node sign(Node left, Token sign, Node right) {
            Node node = new Node("sign", sign.place);
            node.text = sign.text;
            node.parts.add(left);
            node.parts.add(right);
            return node;
        }

        Node sum() {
            Node left = product();
            while (is("+", "-")) {
                left = sign(left, expect("+", "-"), product());
            }
            return left;
        }

        Node product() {
            Node left = use();
            while (is("*", "/")) {
                left = sign(left, expect("*", "/"), use());
            }
            return left;
        }

        Node use() {
            int place = token.place;
            Node node;
            if (is("maker")) {
                node = new Node("maker", place);
                node.text = expect("maker").text;
            } else {
                node = atom();
                if (!is("name", "number", "maker", "(")) {
                    return node;
                }
                Node head = node;
                node = new Node("use", place);
                node.parts.add(head);
                node.partPlaces.add(place);
            }
            while (is("name", "number", "maker", "(")) {
                node.partPlaces.add(token.place);
                node.parts.add(atom());
            }
            return node;
        }

        Node atom() {
            Token t = expect("name", "number", "maker", "(");
            if (t.kind.equals("(")) {
                Node node = ex();
                expect(")");
                return node;
            }
            Node node = new Node(t.kind, t.place);
            node.text = t.text;
            if (t.kind.equals("number")) {
                node.number = Integer.parseInt(t.text);
            }
            return node;
        }
    }

    /** All places that break a rule; the first one counts. */
    static final class Judge {
        final Set<String> defined = new HashSet<>();
        int first = Integer.MAX_VALUE;

        void demand(boolean kept, int place) {
            if (!kept) {
                first = Math.min(first, place);
            }
        }

        void program(List<Binding> all) {
            for (int k = 0; k < all.size(); k++) {
                demand(defined.add(all.get(k).name.text) && k < 40, all.get(k).name.place);
            }
            for (Binding b : all) {
                look(b.ex, behind(List.of(), b.names));
            }
        }

        List<String> behind(List<String> standing, List<Word> words) {
            List<String> all = new ArrayList<>(standing);
            Set<String> own = new HashSet<>();
            for (int i = 0; i < words.size(); i++) {
                Word word = words.get(i);
                demand(i < 6, word.place);
                if (!word.text.equals("_")) {
                    demand(own.add(word.text), word.place);
                    all.add(word.text);
                    demand(all.size() <= 16, word.place);
                }
            }
            return all;
        }

        void look(Node node, List<String> standing) {
            switch (node.kind) {
                case "name" -> demand(standing.contains(node.text) || defined.contains(node.text), node.place);
                case "lambda" -> look(node.parts.get(0), behind(standing, node.names));
                case "let" -> let(node, standing);
                case "case" -> {
                    look(node.parts.get(0), standing);
                    for (int i = 0; i < node.alts.size(); i++) {
                        Alt alt = node.alts.get(i);
                        demand(i < 8, alt.place);
                        look(alt.ex, behind(standing, alt.names));
                    }
                }
                default -> {
                    int most = node.kind.equals("use") ? 7 : 6;
                    for (int i = 0; i < node.parts.size(); i++) {
                        if (!node.kind.equals("sign")) {
                            demand(i < most, node.partPlaces.get(i));
                        }
                        look(node.parts.get(i), standing);
                    }
                }
            }
        }

        void let(Node node, List<String> standing) {
            List<Word> names = new ArrayList<>();
            for (Binding b : node.bindings) {
                names.add(b.name);
            }
            List<String> inside = behind(standing, names);
            for (Binding b : node.bindings) {
                look(b.ex, behind(inside, b.names));
            }
            look(node.parts.get(0), inside);
        }
    }

    // Things: Integer, Made, Function, Half, Waiting.
    record Made(String maker, Object[] parts) { }

    static final class Function {
        boolean isDefinition;
        List<Word> names;
        Node ex;
        Map<String, Object> kept = new HashMap<>();
    }

    record Half(Function function, List<Object> things) { }

    static final class Waiting {
        boolean isDefinition;
        int state = 2;
        Node ex;
        Map<String, Object> kept = new HashMap<>();
        Object came;
    }

    /** kind: shown wanted things alts right left. */
    static final class Frame {
        final String kind;
        Node node;
        int number;
        int depth;
        boolean inside;
        Waiting waiting;
        List<Object> things = new ArrayList<>();
        Map<String, Object> kept = new HashMap<>();

        Frame(String kind) {
            this.kind = kind;
        }
    }

    final int room;
    byte[] tape = new byte[0];
    List<Binding> definitions;
    final Map<String, Object> defined = new HashMap<>();
    int faultKind = -1;
    int faultPlace = -1;

    int state = 0;
    int steps;
    int made;
    int finished;
    int calls;
    int most;
    int place = -1;
    final StringBuilder shown = new StringBuilder();
    final List<Frame> frames = new ArrayList<>();
    Node next;
    Object part;
    Map<String, Object> standing = new HashMap<>();

    Model(int room) {
        this.room = Math.max(10, Math.min(1500, room));
    }

    int feed(int... words) {
        if (tape.length + 20 > 2000) {
            return -1;
        }
        int at = tape.length;
        tape = java.util.Arrays.copyOf(tape, at + 20);
        for (int word : words) {
            for (int i = 3; i >= 0; i--) {
                tape[at++] = (byte) (word >> 8 * i);
            }
        }
        return tape.length;
    }

    byte[] takeTape(int n) {
        byte[] text = java.util.Arrays.copyOf(tape, n);
        tape = new byte[0];
        return text;
    }

    boolean judged(Runnable judging) {
        faultKind = 0;
        faultPlace = -1;
        try {
            judging.run();
        } catch (Fault fault) {
            faultKind = fault.kind;
            faultPlace = fault.place;
        }
        return faultKind == 0;
    }

    static void judge(Judge judge) {
        if (judge.first != Integer.MAX_VALUE) {
            throw new Fault(2, judge.first);
        }
    }

    int load(int n) {
        if (n < 0 || n > tape.length) {
            return -2;
        }
        byte[] text = takeTape(n);
        List<Binding> read = new ArrayList<>();
        boolean good = judged(() -> {
            read.addAll(new Parser(text).program());
            Judge judge = new Judge();
            judge.program(read);
            judge(judge);
        });
        if (!good) {
            return -1;
        }
        clear(0);
        definitions = read;
        defined.clear();
        for (Binding b : read) {
            defined.put(b.name.text, definitionThing(b));
        }
        return read.size();
    }

    static Object definitionThing(Binding b) {
        if (b.names.isEmpty()) {
            Waiting waiting = new Waiting();
            waiting.isDefinition = true;
            waiting.ex = b.ex;
            return waiting;
        }
        Function function = new Function();
        function.isDefinition = true;
        function.names = b.names;
        function.ex = b.ex;
        return function;
    }

    boolean ask(int n, int depth) {
        if (n < 0 || n > tape.length) {
            return false;
        }
        byte[] text = takeTape(n);
        if (definitions == null || depth < 1 || depth > 9) {
            return false;
        }
        Node[] read = new Node[1];
        boolean good = judged(() -> {
            read[0] = new Parser(text).question();
            Judge judge = new Judge();
            judge.defined.addAll(defined.keySet());
            judge.look(read[0], List.of());
            judge(judge);
        });
        if (good) {
            clear(1);
            Frame base = new Frame("shown");
            base.depth = depth;
            push(base);
            next = read[0];
        }
        return good;
    }

    void clear(int newState) {
        state = newState;
        steps = 0;
        made = 0;
        finished = 0;
        calls = 0;
        most = 0;
        place = -1;
        shown.setLength(0);
        frames.clear();
        next = null;
        part = null;
        standing = new HashMap<>();
    }

    int fault(int what) {
        return what == 0 ? faultKind : what == 1 ? faultPlace : -1;
    }

    int run(int n) {
        if (n < 0 || n > 20000 || state == 0) {
            return -1;
        }
        for (int i = 0; i < n && state == 1; i++) {
            try {
                step();
            } catch (End end) {
                state = end.state;
                frames.clear();
            }
        }
        return state;
    }

    void push(Frame frame) {
        if (frames.size() == 400) {
            throw new End(6);
        }
        frames.add(frame);
        most = Math.max(most, frames.size());
    }

    Frame pop() {
        return frames.remove(frames.size() - 1);
    }

    static Object came(Object thing) {
        return thing instanceof Waiting w && w.state == 4 ? w.came : thing;
    }

    Map<String, Object> keep(Set<String> names) {
        Map<String, Object> kept = new HashMap<>();
        for (String name : names) {
            if (standing.containsKey(name)) {
                kept.put(name, standing.get(name));
            }
        }
        return kept;
    }

    Object lookUp(String name) {
        return came(standing.containsKey(name) ? standing.get(name) : defined.get(name));
    }

    void step() {
        steps++;
        if (next == null) {
            place = -1;
            Object thing = part;
            part = null;
            want(thing);
            return;
        }
        Node ex = next;
        place = ex.place;
        switch (ex.kind) {
            case "name" -> want(lookUp(ex.text));
            case "use" -> {
                List<Node> atoms = ex.parts.subList(1, ex.parts.size());
                checkRoom(ex, atoms.stream().mapToInt(this::costToTake).sum());
                Frame frame = new Frame("things");
                for (Node atom : atoms) {
                    frame.things.add(take(atom));
                }
                push(frame);
                next = ex.parts.get(0);
            }
            case "let" -> let(ex);
            case "case" -> {
                Frame frame = new Frame("alts");
                frame.node = ex;
                frame.kept = keep(ex.altsFree());
                push(frame);
                next = ex.parts.get(0);
            }
            case "sign" -> {
                Frame frame = new Frame("right");
                frame.node = ex;
                frame.kept = keep(ex.parts.get(1).free());
                push(frame);
                next = ex.parts.get(0);
            }
            default -> {
                checkRoom(ex, costToMake(ex));
                back(make(ex));
            }
        }
    }

    void let(Node ex) {
        int cost = 0;
        for (Binding b : ex.bindings) {
            cost += b.names.isEmpty() ? costToMake(b.ex) : 1;
        }
        checkRoom(ex, cost);
        standing = new HashMap<>(standing);
        for (Binding b : ex.bindings) {
            standing.put(b.name.text, b.names.isEmpty() ? bare(b.ex) : new Function());
        }
        for (Binding b : ex.bindings) {
            Object thing = standing.get(b.name.text);
            if (thing instanceof Function f && !b.names.isEmpty()) {
                f.names = b.names;
                f.ex = b.ex;
                f.kept = keep(Node.without(b.ex.free(), b.names));
            } else {
                fill(thing, b.ex);
            }
        }
        next = ex.parts.get(0);
    }

    int costToTake(Node ex) {
        return ex.kind.equals("name") ? 0 : costToMake(ex);
    }

    int costToMake(Node ex) {
        if (ex.kind.equals("number") || ex.kind.equals("maker") && ex.parts.isEmpty()) {
            return 0;
        }
        return ex.kind.equals("maker") ? 1 + ex.parts.stream().mapToInt(this::costToTake).sum() : 1;
    }

    Object take(Node ex) {
        return ex.kind.equals("name") ? lookUp(ex.text) : make(ex);
    }

    Object make(Node ex) {
        Object thing = bare(ex);
        fill(thing, ex);
        return thing;
    }

    Object bare(Node ex) {
        return switch (ex.kind) {
            case "number" -> ex.number;
            case "maker" -> new Made(ex.text, new Object[ex.parts.size()]);
            case "lambda" -> new Function();
            default -> new Waiting();
        };
    }

    void fill(Object thing, Node ex) {
        if (thing instanceof Made m) {
            for (int i = 0; i < m.parts.length; i++) {
                m.parts[i] = take(ex.parts.get(i));
            }
        } else if (thing instanceof Function f) {
            f.names = ex.names;
            f.ex = ex.parts.get(0);
            f.kept = keep(ex.free());
        } else if (thing instanceof Waiting w) {
            w.ex = ex;
            w.kept = keep(ex.free());
        }
    }

    void checkRoom(Node ex, int cells) {
        if (cells > 0 && reached(keep(ex.free()).values()) + cells > room) {
            throw new End(5);
        }
        made += cells;
    }

    void want(Object thing) {
        Object it = came(thing);
        if (!(it instanceof Waiting w)) {
            back(it);
            return;
        }
        if (w.state == 3) {
            throw new End(3);
        }
        Frame frame = new Frame("wanted");
        frame.waiting = w;
        push(frame);
        w.state = 3;
        standing = w.kept;
        w.kept = new HashMap<>();
        next = w.ex;
    }

    void back(Object thing) {
        next = null;
        Object it = thing;
        while (it != null) {
            it = receive(it);
        }
    }

    /** Answers the thing that comes back on, or null when something is next or all is shown. */
    Object receive(Object thing) {
        Frame frame = frames.get(frames.size() - 1);
        if (frame.kind.equals("shown")) {
            show(thing, frame);
            return null;
        }
        pop();
        switch (frame.kind) {
            case "wanted" -> {
                frame.waiting.state = 4;
                frame.waiting.came = thing;
                finished++;
                return thing;
            }
            case "things" -> {
                return apply(thing, frame.things);
            }
            case "alts" -> {
                standing = new HashMap<>(frame.kept);
                for (Alt alt : frame.node.alts) {
                    if (fits(alt, thing)) {
                        next = alt.ex;
                        return null;
                    }
                }
                throw new End(4);
            }
            case "right" -> {
                if (!(thing instanceof Integer number)) {
                    throw new End(4);
                }
                Frame left = new Frame("left");
                left.number = number;
                left.node = frame.node;
                push(left);
                standing = frame.kept;
                next = frame.node.parts.get(1);
                return null;
            }
            default -> {
                if (!(thing instanceof Integer number)) {
                    throw new End(4);
                }
                return reckon(frame.number, frame.node.text, number);
            }
        }
    }

    boolean fits(Alt alt, Object thing) {
        if (alt.number != null) {
            return alt.number.equals(thing);
        }
        Object[] parts = {thing};
        if (alt.maker != null) {
            if (!(thing instanceof Made m) || !m.maker.equals(alt.maker) || m.parts.length != alt.names.size()) {
                return false;
            }
            parts = m.parts;
        }
        for (int i = 0; i < parts.length; i++) {
            if (!alt.names.get(i).text.equals("_")) {
                standing.put(alt.names.get(i).text, parts[i]);
            }
        }
        return true;
    }

    static Object reckon(int x, String sign, int y) {
        if (sign.equals("/") && y == 0) {
            throw new End(4);
        }
        return switch (sign) {
            case "+" -> x + y;
            case "-" -> x - y;
            case "*" -> x * y;
            case "/" -> x / y;
            case "<" -> truth(x < y);
            case "<=" -> truth(x <= y);
            default -> truth(x == y);
        };
    }

    static Made truth(boolean holds) {
        return new Made(holds ? "True" : "False", new Object[0]);
    }

    Object apply(Object thing, List<Object> given) {
        Function function;
        List<Object> all = new ArrayList<>();
        if (thing instanceof Function f) {
            function = f;
        } else if (thing instanceof Half half) {
            function = half.function;
            all.addAll(half.things);
        } else {
            throw new End(4);
        }
        all.addAll(given);
        int names = function.names.size();
        if (all.size() < names) {
            List<Object> roots = new ArrayList<>(all);
            roots.add(function);
            if (reached(roots) + 1 > room) {
                throw new End(5);
            }
            made++;
            return new Half(function, all);
        }
        calls++;
        standing = new HashMap<>(function.kept);
        for (int i = 0; i < names; i++) {
            standing.put(function.names.get(i).text, all.get(i));
        }
        if (all.size() > names) {
            Frame frame = new Frame("things");
            frame.things = all.subList(names, all.size());
            push(frame);
        }
        next = function.ex;
        return null;
    }

    void print(String text) {
        for (int i = 0; i < text.length(); i++) {
            if (shown.length() == 1000) {
                throw new End(7);
            }
            shown.append(text.charAt(i));
        }
    }

    void show(Object thing, Frame frame) {
        if (thing instanceof Integer number) {
            print(Integer.toString(number));
        } else if (thing instanceof Made m) {
            boolean bracket = frame.inside && m.parts.length > 0;
            print(bracket ? "(" + m.maker : m.maker);
            if (m.parts.length > 0 && frame.depth > 1) {
                Frame inner = new Frame("shown");
                inner.inside = true;
                inner.depth = frame.depth - 1;
                inner.things.addAll(List.of(m.parts));
                inner.number = bracket ? 1 : 0;
                push(inner);
            } else {
                print(" .".repeat(m.parts.length) + (bracket ? ")" : ""));
            }
        } else {
            print("?");
        }
        goOn();
    }

    void goOn() {
        while (frames.size() > 1) {
            Frame top = frames.get(frames.size() - 1);
            if (!top.things.isEmpty()) {
                print(" ");
                part = top.things.remove(0);
                return;
            }
            if (top.number == 1) {
                print(")");
            }
            pop();
        }
        throw new End(2);
    }

    int reached(Iterable<Object> roots) {
        Set<Object> cells = Collections.newSetFromMap(new IdentityHashMap<>());
        List<Object> left = new ArrayList<>();
        roots.forEach(left::add);
        for (Frame frame : frames) {
            left.addAll(frame.things);
            left.addAll(frame.kept.values());
            if (frame.waiting != null) {
                left.add(frame.waiting);
            }
        }
        for (Object thing : defined.values()) {
            if (came(thing) != thing) {
                left.add(thing);
            }
        }
        while (!left.isEmpty()) {
            Object thing = came(left.remove(left.size() - 1));
            boolean isCell = thing instanceof Made m && m.parts.length > 0 || thing instanceof Half
                || thing instanceof Function f && !f.isDefinition || thing instanceof Waiting w && !w.isDefinition;
            if (!isCell || !cells.add(thing)) {
                continue;
            }
            if (thing instanceof Made m) {
                left.addAll(List.of(m.parts));
            } else if (thing instanceof Half half) {
                left.add(half.function);
                left.addAll(half.things);
            } else if (thing instanceof Function f) {
                left.addAll(f.kept.values());
            } else if (thing instanceof Waiting w) {
                left.addAll(w.kept.values());
            }
        }
        return cells.size();
    }

    int about(int what) {
        switch (what) {
            case 0: return state;
            case 1: return steps;
            case 2: return made;
            case 3: return finished;
            case 4: return calls;
            case 5: return frames.size();
            case 6: return most;
            case 7: return state >= 3 ? place : -1;
            case 8:
                List<Object> roots = new ArrayList<>();
                if (state == 1 && next == null) {
                    roots.add(part);
                } else if (state == 1) {
                    roots.addAll(keep(next.free()).values());
                }
                return reached(roots);
            case 9: return shown.length();
            default: return -1;
        }
    }

    int octet(int i) {
        return i >= 0 && i < shown.length() ? shown.charAt(i) : -1;
    }

    int definition(int k, int what) {
        if (definitions == null || k < 0 || k >= definitions.size()) {
            return -1;
        }
        Binding b = definitions.get(k);
        String name = b.name.text;
        switch (what) {
            case 0: return b.names.size();
            case 1: return defined.get(name) instanceof Waiting w ? w.state : 1;
            case 2: return name.length();
            default: return what >= 10 && what - 10 < name.length() ? name.charAt(what - 10) : -1;
        }
    }
}
