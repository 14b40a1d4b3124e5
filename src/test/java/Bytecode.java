import java.io.ByteArrayInputStream;
import java.io.DataInputStream;
import java.io.IOException;
import java.io.InputStream;
import java.util.ArrayList;
import java.util.List;

/** What a compiled class does, method by method: its instructions, as far as the rules ask for them. */
final class Bytecode {
    static final int LDC = 18, LDC_WIDE = 19, PUTFIELD = 181, INVOKE_VIRTUAL = 182, INVOKE_INTERFACE = 185,
            INVOKE_DYNAMIC = 186, NEW = 187, ATHROW = 191, CHECKCAST = 192, INSTANCEOF = 193, MONITOR_ENTER = 194,
            MONITOR_EXIT = 195;
    private static final int TABLE_SWITCH = 170, LOOKUP_SWITCH = 171, WIDE = 196, IINC = 132;

    /** An instruction; of one that names a method, field or class, its name as "Class.name(descriptor)". */
    record Step(int place, int code, int operand, String named) {
    }

    record Method(String owner, String name, String descriptor, boolean isPrivate, boolean isStatic, int handlers, List<Step> steps) {
        String full() {
            return owner + "." + name + descriptor;
        }
    }

    private Object[] pool;
    private int[] tags;
    private String owner;
    private final List<Method> methods = new ArrayList<>();

    static List<Method> methodsOf(Class<?> type) throws IOException {
        String file = type.getName() + ".class";
        try (InputStream in = type.getResourceAsStream(file)) {
            Bytecode read = new Bytecode();
            read.readClass(new DataInputStream(in));
            return read.methods;
        }
    }

    private void readClass(DataInputStream in) throws IOException {
        in.skipNBytes(8);
        readPool(in);
        in.readUnsignedShort();
        owner = classNamed(in.readUnsignedShort());
        in.readUnsignedShort();
        in.skipNBytes(2L * in.readUnsignedShort());
        readMembers(in, false);
        readMembers(in, true);
    }

    private void readPool(DataInputStream in) throws IOException {
        int many = in.readUnsignedShort();
        pool = new Object[many];
        tags = new int[many];
        for (int i = 1; i < many; i++) {
            tags[i] = in.readUnsignedByte();
            switch (tags[i]) {
                case 1 -> pool[i] = in.readUTF();
                case 3 -> pool[i] = in.readInt();
                case 4 -> pool[i] = in.readFloat();
                case 5 -> pool[i++] = in.readLong();
                case 6 -> pool[i++] = in.readDouble();
                case 7, 8, 16, 19, 20 -> pool[i] = new int[] {in.readUnsignedShort()};
                case 15 -> pool[i] = new int[] {in.readUnsignedByte(), in.readUnsignedShort()};
                default -> pool[i] = new int[] {in.readUnsignedShort(), in.readUnsignedShort()};
            }
        }
    }

    private void readMembers(DataInputStream in, boolean kept) throws IOException {
        int many = in.readUnsignedShort();
        for (int i = 0; i < many; i++) {
            int access = in.readUnsignedShort();
            String name = (String) pool[in.readUnsignedShort()];
            String descriptor = (String) pool[in.readUnsignedShort()];
            int attributes = in.readUnsignedShort();
            for (int a = 0; a < attributes; a++) {
                String attribute = (String) pool[in.readUnsignedShort()];
                byte[] bytes = new byte[in.readInt()];
                in.readFully(bytes);
                if (kept && attribute.equals("Code")) {
                    readCode(name, descriptor, access, new DataInputStream(new ByteArrayInputStream(bytes)));
                }
            }
        }
    }

    private void readCode(String name, String descriptor, int access, DataInputStream in) throws IOException {
        in.readUnsignedShort();
        in.readUnsignedShort();
        byte[] code = new byte[in.readInt()];
        in.readFully(code);
        int handlers = in.readUnsignedShort();
        List<Step> steps = new ArrayList<>();
        for (int at = 0; at < code.length; at += lengthOf(code, at)) {
            int op = code[at] & 255;
            boolean names = op >= 178 && op <= 187 || op == 189 || op == CHECKCAST || op == INSTANCEOF;
            steps.add(new Step(at, op, operandOf(code, at, op), names ? named(shortAt(code, at + 1)) : ""));
        }
        methods.add(new Method(owner, name, descriptor, (access & 2) != 0, (access & 8) != 0, handlers, steps));
    }

    /** The number that a constant instruction brings; of others what stands in their next two bytes, or 0. */
    private int operandOf(byte[] code, int at, int op) {
        if (op >= 2 && op <= 8) {
            return op - 3;
        }
        if (op == 16) {
            return code[at + 1];
        }
        if (op == LDC || op == LDC_WIDE) {
            Object constant = pool[op == LDC ? code[at + 1] & 255 : shortAt(code, at + 1)];
            return constant instanceof Integer v ? v : 0;
        }
        return at + 2 < code.length && lengthOf(code, at) >= 3 ? (short) shortAt(code, at + 1) : 0;
    }

    private static int shortAt(byte[] code, int at) {
        return (code[at] & 255) << 8 | code[at + 1] & 255;
    }

    private static int intAt(byte[] code, int at) {
        return shortAt(code, at) << 16 | shortAt(code, at + 2);
    }

    private String classNamed(int place) {
        return (String) pool[((int[]) pool[place])[0]];
    }

    private String named(int place) {
        if (tags[place] == 7) {
            return classNamed(place);
        }
        int[] parts = (int[]) pool[place];
        int[] nameAndType = (int[]) pool[parts[1]];
        String in = tags[place] == 18 ? "dynamic" : classNamed(parts[0]);
        return in + "." + pool[nameAndType[0]] + pool[nameAndType[1]];
    }

    private static int lengthOf(byte[] code, int at) {
        int op = code[at] & 255;
        int padded = (at + 4) / 4 * 4;
        if (op == TABLE_SWITCH) {
            return padded - at + 12 + 4 * (intAt(code, padded + 8) - intAt(code, padded + 4) + 1);
        }
        if (op == LOOKUP_SWITCH) {
            return padded - at + 8 + 8 * intAt(code, padded + 4);
        }
        if (op == WIDE) {
            return (code[at + 1] & 255) == IINC ? 6 : 4;
        }
        if (op == 185 || op == 186 || op == 200 || op == 201) {
            return 5;
        }
        if (op == 197) {
            return 4;
        }
        boolean three = op == 17 || op == 19 || op == 20 || op == IINC || op >= 153 && op <= 168 || op >= 178 && op <= 184
                || op == 187 || op == 189 || op == 192 || op == 193 || op == 198 || op == 199;
        boolean two = op == 16 || op == 18 || op >= 21 && op <= 25 || op >= 54 && op <= 58 || op == 169 || op == 188;
        return three ? 3 : two ? 2 : 1;
    }
}
