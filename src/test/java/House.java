import java.nio.charset.StandardCharsets;
import java.util.Arrays;

/** An object of LazyForms that takes texts, with the questions that tests put most. */
final class House extends Checks {
    final LazyForms x;

    House(int room) {
        x = new LazyForms(room);
    }

    static House house(int room, String program) {
        House house = new House(room);
        house.tape(program);
        due("load " + program, house.x.load(program.length()) >= 0, true);
        return house;
    }

    void tape(String text) {
        byte[] b = Arrays.copyOf(text.getBytes(StandardCharsets.ISO_8859_1), (text.length() + 19) / 20 * 20);
        for (int i = 0; i < b.length; i += 20) {
            x.feed(word(b, i), word(b, i + 4), word(b, i + 8), word(b, i + 12), word(b, i + 16));
        }
    }

    private static int word(byte[] b, int i) {
        return (b[i] & 255) << 24 | (b[i + 1] & 255) << 16 | (b[i + 2] & 255) << 8 | b[i + 3] & 255;
    }

    House asked(String text, int depth) {
        tape(text);
        due("ask " + text, x.ask(text.length(), depth), true);
        return this;
    }

    String shown() {
        StringBuilder all = new StringBuilder();
        for (int i = 0; i < x.about(9); i++) {
            all.append((char) x.octet(i));
        }
        return all.toString();
    }

    /** A question that ends within 20,000 steps. */
    void ends(String question, int depth, int state, String shown) {
        asked(question, depth);
        due("run of " + question, x.run(20000), state);
        due("about(0) of " + question, x.about(0), state);
        due("what is shown of " + question, shown(), shown);
    }

    void endsAt(String question, int state, int place, int steps) {
        ends(question, 1, state, "");
        due("place of " + question, x.about(7), place);
        due("steps of " + question, x.about(1), steps);
        due("frames behind " + question, x.about(5), 0);
    }

    /** A text that is loaded into a new object; a kind of 0 is no fault. */
    static void faulty(String text, int kind, int place) {
        House t = new House(20);
        t.tape(text);
        due("load " + text, t.x.load(text.length()) == -1, kind != 0);
        due("fault of " + text, t.x.fault(0), kind);
        due("place in " + text, t.x.fault(1), place);
    }

    /** An ex of so many cells, all of them reached from its thing. */
    static String tower(int cells) {
        return "K(".repeat(cells - 1) + "K 1" + ")".repeat(cells - 1);
    }
}
