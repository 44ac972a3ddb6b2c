import java.io.ByteArrayInputStream;
import java.io.DataInputStream;
import java.io.IOException;
import java.io.InputStream;
import java.io.UncheckedIOException;
import java.util.ArrayList;
import java.util.LinkedHashMap;
import java.util.List;
import java.util.Map;

/** What the methods of a class do by the compiler's own words: what they make, and whom they call. */
final class ClassCode {
    private static final int WIDE = 0xc4;
    private static final int IINC = 0x84;
    private static final int TABLE_SWITCH = 0xaa;
    private static final int LOOKUP_SWITCH = 0xab;

    private final String name;
    private final Map<String, List<String>> making = new LinkedHashMap<>();
    private final Map<String, List<String>> called = new LinkedHashMap<>();
    private Object[] pool;
    private int[] tags;

    ClassCode(Class<?> type) {
        name = type.getName();
        try (InputStream in = type.getResourceAsStream("/" + name + ".class")) {
            read(new DataInputStream(in));
        } catch (IOException e) {
            throw new UncheckedIOException(e);
        }
    }

    /** Methods by owner, name and what they take; of each, what it makes by its own instructions. */
    Map<String, List<String>> making() {
        return making;
    }

    /** Of each method, the methods that it calls. */
    Map<String, List<String>> called() {
        return called;
    }

    private void read(DataInputStream in) throws IOException {
        in.readInt();
        in.readInt();
        readPool(in);
        in.skipBytes(6);
        in.skipBytes(2 * in.readUnsignedShort());
        int fields = in.readUnsignedShort();
        for (int i = 0; i < fields; i++) {
            in.skipBytes(6);
            skipAttributes(in);
        }
        int methods = in.readUnsignedShort();
        for (int i = 0; i < methods; i++) {
            in.skipBytes(2);
            String method = name + "." + pool[in.readUnsignedShort()] + pool[in.readUnsignedShort()];
            making.put(method, new ArrayList<>());
            called.put(method, new ArrayList<>());
            readMethod(in, method);
        }
    }

    private void readPool(DataInputStream in) throws IOException {
        int size = in.readUnsignedShort();
        pool = new Object[size];
        tags = new int[size];
        for (int i = 1; i < size; i++) {
            tags[i] = in.readUnsignedByte();
            switch (tags[i]) {
                case 1: pool[i] = in.readUTF(); break;
                case 3: case 4: pool[i] = in.readInt(); break;
                case 5: case 6: pool[i] = in.readLong(); i++; break;
                case 7: case 8: case 16: case 19: case 20: pool[i] = in.readUnsignedShort(); break;
                case 15: pool[i] = in.readUnsignedByte() << 16 | in.readUnsignedShort(); break;
                default: pool[i] = new int[] {in.readUnsignedShort(), in.readUnsignedShort()}; break;
            }
        }
    }

    private static void skipAttributes(DataInputStream in) throws IOException {
        int attributes = in.readUnsignedShort();
        for (int i = 0; i < attributes; i++) {
            in.skipBytes(2);
            in.readNBytes(in.readInt());
        }
    }

    private void readMethod(DataInputStream in, String method) throws IOException {
        int attributes = in.readUnsignedShort();
        for (int i = 0; i < attributes; i++) {
            Object kind = pool[in.readUnsignedShort()];
            byte[] content = in.readNBytes(in.readInt());
            if (kind.equals("Code")) {
                DataInputStream code = new DataInputStream(new ByteArrayInputStream(content));
                code.readInt();
                readCode(code.readNBytes(code.readInt()), method);
            }
        }
    }

    private void readCode(byte[] code, String method) {
        for (int at = 0; at < code.length; at += length(code, at)) {
            int op = code[at] & 255;
            switch (op) {
                case 0x12:
                    constant(code[at + 1] & 255, method);
                    break;
                case 0x13: case 0x14:
                    constant(two(code, at + 1), method);
                    break;
                case 0xb6: case 0xb7: case 0xb8: case 0xb9:
                    called.get(method).add(reference(two(code, at + 1)));
                    break;
                case 0xba: making.get(method).add("a joined text or a lambda"); break;
                case 0xbb: making.get(method).add("an object"); break;
                case 0xbc: case 0xbd: case 0xc5: making.get(method).add("an array"); break;
                default: break;
            }
        }
    }

    /** A constant that is no number is an object, made when it is used first. */
    private void constant(int index, String method) {
        if (tags[index] < 3 || tags[index] > 6) {
            making.get(method).add("a text");
        }
    }

    private String reference(int index) {
        int[] parts = (int[]) pool[index];
        int[] rest = (int[]) pool[parts[1]];
        return pool[(int) pool[parts[0]]] + "." + pool[rest[0]] + pool[rest[1]];
    }

    private static int two(byte[] code, int at) {
        return (code[at] & 255) << 8 | code[at + 1] & 255;
    }

    private static int four(byte[] code, int at) {
        return two(code, at) << 16 | two(code, at + 2);
    }

    private static int length(byte[] code, int at) {
        int op = code[at] & 255;
        int aligned = (at / 4 + 1) * 4;
        if (op == TABLE_SWITCH) {
            return aligned + 12 + 4 * (four(code, aligned + 8) - four(code, aligned + 4) + 1) - at;
        }
        if (op == LOOKUP_SWITCH) {
            return aligned + 8 + 8 * four(code, aligned + 4) - at;
        }
        if (op == WIDE) {
            return (code[at + 1] & 255) == IINC ? 6 : 4;
        }
        if (op == 0x10 || op == 0x12 || op >= 0x15 && op <= 0x19 || op >= 0x36 && op <= 0x3a || op == 0xa9 || op == 0xbc) {
            return 2;
        }
        if (op == 0x11 || op == 0x13 || op == 0x14 || op == IINC || op >= 0x99 && op <= 0xa8 || op >= 0xb2 && op <= 0xb8
                || op == 0xbb || op == 0xbd || op == 0xc0 || op == 0xc1 || op == 0xc6 || op == 0xc7) {
            return 3;
        }
        return op == 0xc5 ? 4 : op == 0xb9 || op == 0xba || op == 0xc8 || op == 0xc9 ? 5 : 1;
    }
}
