import java.nio.charset.StandardCharsets;
import java.util.ArrayList;
import java.util.List;
import java.util.Random;

/** Random runs of calls, each answer compared with that of Model. */
public final class ModelTest {
    private static final String[] PROGRAMS = {
        "from n = Cons n (from (n + 1)); take n xs = case n of { 0 -> Nil; _ -> case xs of { Cons y ys -> Cons y (take (n - 1) ys); Nil -> Nil } };"
            + "nats = from 0; sum xs = case xs of { Nil -> 0; Cons y ys -> y + sum ys }; map f xs = case xs of { Nil -> Nil; Cons y ys -> Cons (f y) (map f ys) };"
            + "add a b = a + b; acc a xs = case xs of { Nil -> a; Cons y ys -> let b = a + y in case b of { c -> acc c ys } }; inc = add 1;",
        "fib n = case n < 2 of { True -> n; False -> fib (n - 1) + fib (n - 2) }; fibs = Cons 0 (Cons 1 (zip fibs (tail fibs)));"
            + "tail xs = case xs of { Cons _ t -> t }; zip a b = case a of { Cons x xs -> case b of { Cons y ys -> Cons (x + y) (zip xs ys) } };"
            + "nth n xs = case xs of { Cons y ys -> case n of { 0 -> y; _ -> nth (n - 1) ys } };",
        "loop n = loop (n + 1); hole = hole + 1; a = b; b = Pair a a; deep n = 1 + deep (n + 1); grow xs = grow (Cons 1 xs);"
            + "id x = x; const x y = x; twice f x = f (f x); compose f g x = f (g x); bad = 1 / 0; p = Pair (1 / 0) (let q = q in q);",
        "rep n x = case n of { 0 -> Nil; _ -> let r = rep (n - 1) x in Cons x r }; big = rep 300 7; len xs = case xs of { Nil -> 0; Cons _ t -> 1 + len t };"
            + "lenb a xs = case xs of { Nil -> a; Cons _ t -> case a + 1 of { b -> lenb b t } }; ones = let o = Cons 1 o in o;"
            + "tree d = case d of { 0 -> Leaf; _ -> let t = tree (d - 1) in Node t d t }; t6 = tree 6; wide = Six 1 2 3 4 5 (Six t6 t6 t6 t6 t6 t6);",
        "app f x = f x; flip f x y = f y x; comp f g x = f (g x); fold f z xs = case xs of { Nil -> z; Cons y ys -> f y (fold f z ys) };"
            + "iter n f x = case n of { 0 -> x; _ -> iter (n - 1) f (f x) }; xs = Cons 3 (Cons 5 (Cons 8 Nil)); six a b c d e f = a - b - c - d - e - f;"
            + "fix f = let x = f x in x; pick n = case n of { 0 -> \\a b -> a; _ -> let m = pick (n - 1) in \\a b -> m b a }; sub = flip (\\a b -> a - b);",
    };
    private static final String[][] QUESTIONS = {
        {"take 5 nats", "sum (take 20 nats)", "acc 0 (take 50 nats)", "acc 0 (take 2000 nats)", "map inc (take 3 nats)", "map (add 3) nats", "sum nats",
            "nats", "inc", "Pair inc (add 1 2)", "let xs = map (\\x -> x * x) nats in Pair (take 3 xs) xs", "take 100 nats"},
        {"fib 12", "nth 20 fibs", "fibs", "tail (tail fibs)", "tail Nil", "Pair fibs fibs", "nth 45 fibs + nth 46 fibs", "nth 50 fibs"},
        {"loop 0", "hole", "a", "b", "Pair hole b", "deep 0", "grow Nil", "twice (twice (twice (\\x -> x + 1))) 0", "compose id id 3", "const 1 bad",
            "bad", "p", "Pair p p", "(\\x y z -> x + y * z) 1 2", "twice const 1 2 3", "id id id 5", "1 2", "let f x = case x of { 0 -> 0; y -> f (y - 1) } in f 30",
            "let x = Pair y y; y = Pair x x in x", "let x = y; y = x in x", "True", "1 < 2", "2 <= 1", "2 == 2", "0 - 2147483647 - 1", "True + 1", "1 + True"},
        {"len big", "lenb 0 big", "big", "ones", "tree 3", "t6", "wide", "len (rep 450 1)", "lenb 0 (rep 900 1)", "Pair (lenb 0 big) (lenb 0 big)"},
        {"let a = 5 in app (\\y -> y - a) 1", "let a = 1 + 4; g b c = a * b + c in fold g a xs", "iter 20 (comp (\\x -> x + 1) (flip (\\p q -> p - q) 3)) 0",
            "let a = 1; b = a + 1 in app (six a b 3) 4 5 6", "comp (comp (sub 1)) sub 7 9", "pick 7 1 2", "Pair (pick 3) (sub 2)", "fix (\\s n -> case n of { 0 -> 0; _ -> n + s (n - 1) }) 30",
            "fix (Cons 1)", "let h = six 1 2; k = h 3 in Pair (h 1 2 3 4) (k 4 5 6)", "fold (comp Cons2 (sub 1)) Nil xs", "fold (\\y ys -> let z = y * y in Cons z ys) Nil xs",
            "let f a = \\b -> let c = a * b in \\d -> c - d * a in app (f 2 3) 4 + (app (app f 5) 6) 7", "iter 300 (sub 1) 0", "iter 9 (iter 9) (sub 1)", "fix six", "fix (\\x -> x)"},
    };
    private static final String[] NAMES = {"a", "b", "c", "d", "e", "f2", "g_", "hX"};

    private final Random random;
    private final LazyForms house;
    private final Model model;
    private final StringBuilder log = new StringBuilder();
    private int calls = 0;
    private boolean failed = false;

    private ModelTest(long seed) {
        random = new Random(seed);
        int room = random.nextInt(4) == 0 ? random.nextInt(1700) - 50 : 10 + random.nextInt(60);
        house = new LazyForms(room);
        model = new Model(room);
        log.append("seed ").append(seed).append(" room ").append(room).append('\n');
    }

    public static void main(String[] args) {
        int from = args.length > 0 ? Integer.parseInt(args[0]) : 0;
        int to = args.length > 1 ? Integer.parseInt(args[1]) : 1500;
        int wrong = 0;
        int[] ends = new int[8];
        int[] faults = new int[4];
        for (int seed = from; seed < to && wrong < 3; seed++) {
            ModelTest test = new ModelTest(seed);
            test.play(ends, faults);
            if (test.failed) {
                wrong++;
                System.out.println(test.log);
            }
        }
        System.out.println("states " + java.util.Arrays.toString(ends) + ", faults " + java.util.Arrays.toString(faults));
        for (int end = 1; end < 8; end++) {
            wrong += ends[end] == 0 ? 1 : 0;
        }
        System.out.println(wrong == 0 ? "all answers are as the model's" : "there are wrong answers");
        if (wrong != 0) {
            System.exit(1);
        }
    }

    private void due(String call, int got, int want) {
        calls++;
        if (got != want && !failed) {
            failed = true;
            log.append(call).append(" answered ").append(got).append(", the model ").append(want).append('\n');
        }
    }

    private void play(int[] ends, int[] faults) {
        compare();
        for (int round = 0; round < 3 && !failed; round++) {
            int which = random.nextInt(PROGRAMS.length * 2);
            boolean known = which < PROGRAMS.length;
            List<String> signatures = new ArrayList<>();
            if (random.nextInt(3) == 0) {
                load(crowd());
                faults[Math.max(0, model.fault(0))]++;
                compare();
            }
            load(spoil(known ? PROGRAMS[which] : program(signatures)));
            faults[Math.max(0, model.fault(0))]++;
            compare();
            for (int q = 0; q < 4 && !failed; q++) {
                String question = known ? QUESTIONS[which][random.nextInt(QUESTIONS[which].length)]
                    : ex(random.nextBoolean() ? 'I' : 'L', 0, new ArrayList<>(), signatures);
                ask(spoil(question));
                faults[Math.max(0, model.fault(0))]++;
                compare();
                go();
                ends[Math.max(0, model.about(0))]++;
            }
        }
    }

    private void go() {
        for (int i = 0; i < 12 && !failed; i++) {
            int n = random.nextInt(3) == 0 ? random.nextInt(4) : random.nextInt(i < 6 ? 40 : 3000);
            log.append("run(").append(n).append(")\n");
            due("run", house.run(n), model.run(n));
            compare();
            if (model.about(0) != 1) {
                break;
            }
        }
    }

    private void compare() {
        for (int what = -1; what <= 10; what++) {
            due("about(" + what + ")", house.about(what), model.about(what));
        }
        for (int what = -1; what <= 2; what++) {
            due("fault(" + what + ")", house.fault(what), model.fault(what));
        }
        for (int k = -1; k <= 10; k++) {
            for (int what = -1; what < 24; what++) {
                due("definition(" + k + ", " + what + ")", house.definition(k, what), model.definition(k, what));
            }
        }
        for (int i = -1; i <= model.about(9); i++) {
            due("octet(" + i + ")", house.octet(i), model.octet(i));
        }
    }

    private void tape(String text) {
        byte[] bytes = java.util.Arrays.copyOf(text.getBytes(StandardCharsets.ISO_8859_1), (text.length() + 19) / 20 * 20);
        int[] w = new int[5];
        for (int i = 0; i < bytes.length; i += 20) {
            for (int j = 0; j < 5; j++) {
                int k = i + 4 * j;
                w[j] = bytes[k] << 24 | (bytes[k + 1] & 255) << 16 | (bytes[k + 2] & 255) << 8 | bytes[k + 3] & 255;
            }
            due("feed", house.feed(w[0], w[1], w[2], w[3], w[4]), model.feed(w));
        }
    }

    private void load(String text) {
        tape(text);
        int n = random.nextInt(30) == 0 ? random.nextInt(2200) - 100 : text.length();
        log.append("load(").append(n).append(") ").append(text).append('\n');
        due("load", house.load(n), model.load(n));
    }

    private void ask(String text) {
        tape(text);
        int n = random.nextInt(30) == 0 ? random.nextInt(300) - 20 : text.length();
        int depth = random.nextInt(30) == 0 ? random.nextInt(13) - 1 : 1 + random.nextInt(9);
        log.append("ask(").append(n).append(", ").append(depth).append(") ").append(text).append('\n');
        due("ask", house.ask(n, depth) ? 1 : 0, model.ask(n, depth) ? 1 : 0);
    }

    private String spoil(String text) {
        StringBuilder spoilt = new StringBuilder(text);
        int changes = random.nextInt(3) == 0 ? 1 + random.nextInt(3) : 0;
        for (int i = 0; i < changes && spoilt.length() > 0; i++) {
            int at = random.nextInt(spoilt.length());
            String piece = "()(){};=->\\+-*/<<===_ 0017 let in case of x Abc a -- \n#\t~ let a = 1 in  _ -> \\ b -> ; case a of { c -> b } ";
            int from = random.nextInt(piece.length());
            String inserted = piece.substring(from, Math.min(piece.length(), from + 1 + random.nextInt(6)));
            switch (random.nextInt(4)) {
                case 0 -> spoilt.deleteCharAt(at);
                case 1 -> spoilt.insert(at, inserted);
                case 2 -> spoilt.insert(at, spoilt.substring(at, Math.min(spoilt.length(), at + 1 + random.nextInt(30))));
                default -> spoilt.setCharAt(at, inserted.charAt(0));
            }
        }
        return spoilt.length() > 2000 ? spoilt.substring(0, 2000) : spoilt.toString();
    }

    /** A program whose rows are about as long as they may be, and whose names mostly stand for something. */
    private String crowd() {
        StringBuilder text = new StringBuilder();
        int definitions = random.nextInt(4) == 0 ? 38 + random.nextInt(5) : 1 + random.nextInt(4);
        for (int k = 0; k < definitions; k++) {
            text.append(random.nextInt(80) == 0 ? "q0" : "q" + k);
            List<String> names = row(text, random.nextInt(8), new ArrayList<>(), false);
            text.append('=');
            crowdEx(text, definitions > 9 ? 19 : random.nextInt(5), names, definitions);
            text.append(";\n");
        }
        return text.length() > 2000 ? text.substring(0, 2000) : text.toString();
    }

    /** Names that come, mostly such that are not in this row yet; answers those that stand then. */
    private List<String> row(StringBuilder text, int count, List<String> standing, boolean pattern) {
        List<String> all = new ArrayList<>(standing);
        for (int i = 0; i < count; i++) {
            boolean any = pattern && random.nextInt(5) == 0;
            String name = any ? "_" : random.nextInt(60) == 0 && !all.isEmpty() ? all.get(all.size() - 1) : "n" + (char) ('a' + i) + random.nextInt(3);
            text.append(' ').append(name);
            if (!any) {
                all.add(name);
            }
        }
        return all;
    }

    private void crowdEx(StringBuilder text, int depth, List<String> standing, int definitions) {
        int more = random.nextInt(3);
        int choice = depth > 20 || text.length() > 1700 ? 0 : random.nextInt(7);
        switch (choice) {
            case 1, 2 -> {
                text.append('\\');
                List<String> inside = row(text, 1 + random.nextInt(more == 0 ? 7 : 3), standing, false);
                text.append(" -> ");
                crowdEx(text, depth + 1, inside, definitions);
            }
            case 3 -> {
                int bindings = 1 + random.nextInt(more == 0 ? 7 : 3);
                List<String> inside = new ArrayList<>(standing);
                for (int i = 0; i < bindings; i++) {
                    inside.add(random.nextInt(40) == 0 ? "l0" : "l" + i);
                }
                for (int i = 0; i < bindings; i++) {
                    text.append(i == 0 ? "let " : "; ").append(inside.get(standing.size() + i));
                    List<String> own = row(text, random.nextInt(3), inside, false);
                    text.append(" = ");
                    crowdEx(text, depth + (i == 0 ? 1 : 12), own, definitions);
                }
                text.append(" in ");
                crowdEx(text, depth + 1, inside, definitions);
            }
            case 4 -> {
                text.append("case ");
                crowdEx(text, depth + 9, standing, definitions);
                int alts = 1 + random.nextInt(more == 0 ? 9 : 2);
                for (int i = 0; i < alts; i++) {
                    text.append(i == 0 ? " of { K" : "; K");
                    List<String> inside = row(text, random.nextInt(more == 1 ? 8 : 4), standing, true);
                    text.append(" -> ");
                    crowdEx(text, depth + (i == 0 ? 1 : 12), inside, definitions);
                }
                text.append(" }");
            }
            case 5, 6 -> {
                text.append(choice == 5 ? "q0" : "K");
                int atoms = random.nextInt(more == 0 ? 8 : 3);
                for (int i = 0; i < atoms; i++) {
                    text.append(" (");
                    crowdEx(text, depth + (i == 0 ? 1 : 12), standing, definitions);
                    text.append(')');
                }
            }
            default -> {
                boolean local = !standing.isEmpty() && random.nextBoolean();
                text.append(local ? standing.get(random.nextInt(standing.size())) : "q" + random.nextInt(definitions));
            }
        }
    }

    /** Each signature: the name, a blank, the kinds of its names, a colon, its own kind. */
    private String program(List<String> signatures) {
        int count = 1 + random.nextInt(5);
        for (int k = 0; k < count; k++) {
            StringBuilder kinds = new StringBuilder();
            int names = random.nextInt(3) == 0 ? 0 : 1 + random.nextInt(3);
            for (int i = 0; i < names; i++) {
                kinds.append("IILF".charAt(random.nextInt(4)));
            }
            signatures.add("d" + k + " " + kinds + ":" + "IILF".charAt(random.nextInt(4)));
        }
        StringBuilder text = new StringBuilder();
        for (String signature : signatures) {
            int colon = signature.indexOf(':');
            text.append(signature, 0, signature.indexOf(' '));
            List<String> standing = new ArrayList<>();
            for (int i = signature.indexOf(' ') + 1; i < colon; i++) {
                String name = NAMES[i - signature.indexOf(' ') - 1];
                standing.add(signature.charAt(i) + name);
                text.append(' ').append(name);
            }
            text.append(" = ").append(ex(signature.charAt(colon + 1), 1, standing, signatures)).append(";\n");
        }
        return text.toString();
    }

    private static List<String> with(List<String> standing, String... more) {
        List<String> all = new ArrayList<>(standing);
        all.addAll(List.of(more));
        return all;
    }

    private String fresh() {
        return NAMES[random.nextInt(NAMES.length)];
    }

    /** A name of that kind that no later one hides, or null. */
    private String nameOf(char kind, List<String> standing) {
        List<String> found = new ArrayList<>();
        for (int i = 0; i < standing.size(); i++) {
            String name = standing.get(i).substring(1);
            boolean hidden = false;
            for (int j = i + 1; j < standing.size(); j++) {
                hidden |= standing.get(j).substring(1).equals(name);
            }
            if (!hidden && standing.get(i).charAt(0) == kind) {
                found.add(name);
            }
        }
        return found.isEmpty() ? null : found.get(random.nextInt(found.size()));
    }

    /** An ex of a kind: I numbers, L lists of numbers, F functions from numbers to numbers. */
    private String ex(char wanted, int depth, List<String> standing, List<String> signatures) {
        char kind = random.nextInt(60) == 0 ? "ILF".charAt(random.nextInt(3)) : wanted;
        int choice = depth > 5 ? 0 : random.nextInt(12);
        String name = nameOf(kind, standing);
        if (name != null && (choice < 3 || random.nextInt(4) == 0)) {
            return name;
        }
        String x = fresh();
        String y = fresh();
        switch (choice) {
            case 3:
            case 4:
                return use(kind, depth, standing, signatures);
            case 5: {
                char other = "ILF".charAt(random.nextInt(3));
                List<String> inside = with(standing, other + x);
                return "let " + x + " = " + ex(other, depth + 1, inside, signatures) + " in " + ex(kind, depth + 1, inside, signatures);
            }
            case 6: {
                String z = x.equals(y) ? y + "2" : y;
                List<String> inside = with(standing, "L" + x, "F" + z);
                return "let " + x + " = " + ex('L', depth + 1, inside, signatures) + "; " + z + " e = "
                    + ex('I', depth + 1, with(inside, "Ie"), signatures) + " in " + ex(kind, depth + 1, inside, signatures);
            }
            case 7: {
                String z = x.equals(y) ? y + "2" : y;
                return "case " + ex('L', depth + 1, standing, signatures) + " of { Nil -> " + ex(kind, depth + 1, standing, signatures)
                    + "; Cons " + x + " " + z + " -> " + ex(kind, depth + 1, with(standing, "I" + x, "L" + z), signatures) + " }";
            }
            case 8:
                return "case " + ex('I', depth + 1, standing, signatures) + " of { 0 -> " + ex(kind, depth + 1, standing, signatures)
                    + "; -1 -> " + ex(kind, depth + 1, standing, signatures) + "; " + x + " -> "
                    + ex(kind, depth + 1, with(standing, "I" + x), signatures) + " }";
            case 9:
                return "case " + atom('I', depth, standing, signatures) + " < " + atom('I', depth, standing, signatures) + " of { True -> "
                    + ex(kind, depth + 1, standing, signatures) + "; _ -> " + ex(kind, depth + 1, standing, signatures) + " }";
            default:
                return plain(kind, depth, standing, signatures);
        }
    }

    private String atom(char kind, int depth, List<String> standing, List<String> signatures) {
        String text = ex(kind, depth + 1, standing, signatures);
        return text.matches("[A-Za-z0-9_]+") ? text : "(" + text + ")";
    }

    private String use(char kind, int depth, List<String> standing, List<String> signatures) {
        String signature = signatures.isEmpty() ? null : signatures.get(random.nextInt(signatures.size()));
        if (signature == null || !signature.endsWith(":" + kind)) {
            return kind == 'I' ? atom('F', depth, standing, signatures) + " " + atom('I', depth, standing, signatures)
                : plain(kind, depth, standing, signatures);
        }
        StringBuilder text = new StringBuilder(signature.substring(0, signature.indexOf(' ')));
        for (int i = signature.indexOf(' ') + 1; i < signature.indexOf(':'); i++) {
            text.append(' ').append(atom(signature.charAt(i), depth, standing, signatures));
        }
        return text.toString();
    }

    private String plain(char kind, int depth, List<String> standing, List<String> signatures) {
        boolean deep = depth > 5;
        if (kind == 'I') {
            return deep || random.nextBoolean() ? Integer.toString(random.nextInt(20))
                : atom('I', depth, standing, signatures) + " " + "+-*/".charAt(random.nextInt(4)) + " " + atom('I', depth, standing, signatures);
        }
        if (kind == 'L') {
            return deep || random.nextInt(4) == 0 ? "Nil"
                : "Cons " + atom('I', depth, standing, signatures) + " " + atom('L', depth, standing, signatures);
        }
        String x = fresh();
        if (!deep && random.nextInt(3) == 0) {
            return "(\\" + x + " x9 -> " + ex('I', depth + 1, with(standing, "I" + x, "Ix9"), signatures) + ") " + atom('I', depth, standing, signatures);
        }
        return "\\" + x + " -> " + ex('I', depth + 1, with(standing, "I" + x), signatures);
    }
}
