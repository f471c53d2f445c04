import java.io.ByteArrayInputStream;
import java.io.DataInputStream;
import java.io.IOException;
import java.io.InputStream;
import java.util.ArrayList;
import java.util.List;

/** A compiled class: of each method what it calls, which instructions it has and how many lines it spans. */
final class ClassFile {
    static final class Method {
        String name = "";
        String shape = "";
        int lines;
        int handlers;
        final List<String> calls = new ArrayList<>();
        final List<Integer> instructions = new ArrayList<>();

        String key(String owner) {
            return owner + "." + name + shape;
        }
    }

    /** How many bytes follow each instruction; those of the two switches and of wide are reckoned where they stand. */
    private static final String BEHIND = "0".repeat(16) + "12122" + "1".repeat(5) + "0".repeat(28) + "1".repeat(5)
            + "0".repeat(73) + "2" + "0".repeat(20) + "2".repeat(16) + "1" + "00" + "0".repeat(6) + "2".repeat(7) + "44"
            + "2" + "1" + "2" + "00" + "22" + "00" + "0" + "3" + "22" + "44";

    final String name;
    final List<Method> methods = new ArrayList<>();
    private final DataInputStream in;
    private Object[] pool = new Object[0];

    private ClassFile(String itsName, DataInputStream itsBytes) {
        name = itsName;
        in = itsBytes;
    }

    static ClassFile of(Class<?> type) throws IOException {
        String file = type.getName() + ".class";
        try (InputStream bytes = type.getResourceAsStream("/" + file)) {
            if (bytes == null) {
                throw new IOException("there is no " + file);
            }
            ClassFile read = new ClassFile(type.getName(), new DataInputStream(bytes));
            read.readAll();
            return read;
        }
    }

    private void readAll() throws IOException {
        in.skipBytes(8);
        readPool(in.readUnsignedShort());
        in.skipBytes(6);
        in.skipBytes(2 * in.readUnsignedShort());
        int fields = in.readUnsignedShort();
        for (int i = 0; i < fields; i++) {
            readMember(new Method());
        }
        int count = in.readUnsignedShort();
        for (int i = 0; i < count; i++) {
            Method method = new Method();
            readMember(method);
            methods.add(method);
        }
    }

    /** A text stays a text; a pair is the two places that it tells; others are passed over. */
    private void readPool(int size) throws IOException {
        pool = new Object[size];
        for (int i = 1; i < size; i++) {
            int tag = in.readUnsignedByte();
            switch (tag) {
                case 1 -> pool[i] = in.readUTF();
                case 3, 4 -> in.skipBytes(4);
                case 5, 6 -> {
                    in.skipBytes(8);
                    i++;
                }
                case 7, 8, 16, 19, 20 -> pool[i] = new int[] {in.readUnsignedShort()};
                case 15 -> in.skipBytes(3);
                default -> pool[i] = new int[] {in.readUnsignedShort(), in.readUnsignedShort()};
            }
        }
    }

    private String text(int place) {
        return (String) pool[place];
    }

    private int part(int place, int which) {
        return ((int[]) pool[place])[which];
    }

    private void readMember(Method method) throws IOException {
        in.skipBytes(2);
        method.name = text(in.readUnsignedShort());
        method.shape = text(in.readUnsignedShort());
        int attributes = in.readUnsignedShort();
        for (int i = 0; i < attributes; i++) {
            String attribute = text(in.readUnsignedShort());
            byte[] bytes = new byte[in.readInt()];
            in.readFully(bytes);
            if (attribute.equals("Code")) {
                readCode(method, new DataInputStream(new ByteArrayInputStream(bytes)));
            }
        }
    }

    private void readCode(Method method, DataInputStream body) throws IOException {
        body.skipBytes(4);
        byte[] code = new byte[body.readInt()];
        body.readFully(code);
        readInstructions(method, code);
        method.handlers = body.readUnsignedShort();
        body.skipBytes(8 * method.handlers);
        int attributes = body.readUnsignedShort();
        for (int i = 0; i < attributes; i++) {
            String attribute = text(body.readUnsignedShort());
            int size = body.readInt();
            if (attribute.equals("LineNumberTable")) {
                readLines(method, body);
            } else {
                body.skipBytes(size);
            }
        }
    }

    private static void readLines(Method method, DataInputStream body) throws IOException {
        int count = body.readUnsignedShort();
        int first = Integer.MAX_VALUE;
        int last = 0;
        for (int i = 0; i < count; i++) {
            body.skipBytes(2);
            int line = body.readUnsignedShort();
            first = Math.min(first, line);
            last = Math.max(last, line);
        }
        method.lines = Math.max(0, last - first + 1);
    }

    private void readInstructions(Method method, byte[] code) {
        for (int i = 0; i < code.length; i += 1 + behind(code, i)) {
            int instruction = code[i] & 255;
            method.instructions.add(instruction);
            if (instruction >= 182 && instruction <= 185) {
                int callee = (code[i + 1] & 255) << 8 | code[i + 2] & 255;
                String owner = text(part(part(callee, 0), 0));
                int nameAndShape = part(callee, 1);
                method.calls.add(owner + "." + text(part(nameAndShape, 0)) + text(part(nameAndShape, 1)));
            }
        }
    }

    private static int behind(byte[] code, int i) {
        int padded = i / 4 * 4 + 4;
        switch (code[i] & 255) {
            case 170: return padded + 12 + 4 * (word(code, padded + 8) - word(code, padded + 4) + 1) - i - 1;
            case 171: return padded + 8 + 8 * word(code, padded + 4) - i - 1;
            case 196: return (code[i + 1] & 255) == 132 ? 5 : 3;
            default: return BEHIND.charAt(code[i] & 255) - '0';
        }
    }

    private static int word(byte[] code, int i) {
        return (code[i] & 255) << 24 | (code[i + 1] & 255) << 16 | (code[i + 2] & 255) << 8 | code[i + 3] & 255;
    }
}
