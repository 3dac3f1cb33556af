import java.io.DataInputStream;
import java.io.IOException;
import java.io.InputStream;
import java.io.UncheckedIOException;
import java.lang.reflect.Modifier;
import java.util.ArrayList;
import java.util.List;
import java.util.TreeMap;

/** What the compiled class does, read from its class files: so that no way of writing it can hide a call. */
final class Bytecode {
    /** A method, and in their order what it calls, makes and throws. */
    static final class Method {
        final String name;
        final String type;
        final List<String> calls = new ArrayList<>();
        final List<String> made = new ArrayList<>();
        int throwing;
        int handlers;
        boolean isDynamic;
        boolean locks;

        Method(String name, String type) {
            this.name = name;
            this.type = type;
        }
    }

    private static final int TABLE_SWITCH = 170;
    private static final int LOOKUP_SWITCH = 171;
    private static final int WIDE = 196;

    /** All methods by 'Class.name(types)', the class's own and those of the classes inside it. */
    final TreeMap<String, Method> methods = new TreeMap<>();
    final List<String> fieldTypes = new ArrayList<>();
    final List<String> openStatics = new ArrayList<>();
    private Object[] pool;

    Bytecode(Class<?> main) {
        read(main);
        for (Class<?> inside : main.getDeclaredClasses()) {
            read(inside);
        }
    }

    private void read(Class<?> c) {
        String file = c.getName().substring(c.getName().lastIndexOf('.') + 1) + ".class";
        try (InputStream bytes = c.getResourceAsStream(file); DataInputStream in = new DataInputStream(bytes)) {
            in.skipBytes(8);
            readPool(in);
            in.skipBytes(6);
            in.skipBytes(2 * in.readUnsignedShort());
            for (int fields = in.readUnsignedShort(); fields > 0; fields--) {
                field(in);
            }
            for (int many = in.readUnsignedShort(); many > 0; many--) {
                method(in, c.getName());
            }
        } catch (IOException e) {
            throw new UncheckedIOException(e);
        }
    }

    private void readPool(DataInputStream in) throws IOException {
        pool = new Object[in.readUnsignedShort()];
        for (int i = 1; i < pool.length; i++) {
            int tag = in.readUnsignedByte();
            switch (tag) {
                case 1:
                    pool[i] = in.readUTF();
                    break;
                case 7:
                case 8:
                case 16:
                case 19:
                case 20:
                    pool[i] = new int[] {in.readUnsignedShort()};
                    break;
                case 3:
                case 4:
                    in.readInt();
                    break;
                case 5:
                case 6:
                    in.readLong();
                    i++;
                    break;
                case 15:
                    in.readUnsignedByte();
                    in.readUnsignedShort();
                    break;
                default:
                    pool[i] = new int[] {in.readUnsignedShort(), in.readUnsignedShort()};
            }
        }
    }

    private String text(int i) {
        return pool[i] instanceof String ? (String) pool[i] : text(((int[]) pool[i])[0]);
    }

    /** 'Class.name(types)' of a call, the class's name alone of a class. */
    private String named(int i) {
        int[] parts = (int[]) pool[i];
        int[] nameAndType = parts.length > 1 ? (int[]) pool[parts[1]] : null;
        return text(parts[0]) + (nameAndType == null ? "" : "." + text(nameAndType[0]) + text(nameAndType[1]));
    }

    private void field(DataInputStream in) throws IOException {
        int access = in.readUnsignedShort();
        String name = text(in.readUnsignedShort());
        fieldTypes.add(text(in.readUnsignedShort()));
        if (Modifier.isStatic(access) && !Modifier.isFinal(access)) {
            openStatics.add(name);
        }
        skipAttributes(in);
    }

    private void skipAttributes(DataInputStream in) throws IOException {
        for (int many = in.readUnsignedShort(); many > 0; many--) {
            in.readUnsignedShort();
            in.skipBytes(in.readInt());
        }
    }

    private void method(DataInputStream in, String owner) throws IOException {
        in.readUnsignedShort();
        Method method = new Method(text(in.readUnsignedShort()), text(in.readUnsignedShort()));
        methods.put(owner + "." + method.name + method.type, method);
        for (int many = in.readUnsignedShort(); many > 0; many--) {
            boolean isCode = text(in.readUnsignedShort()).equals("Code");
            int length = in.readInt();
            if (!isCode) {
                in.skipBytes(length);
                continue;
            }
            in.readInt();
            byte[] code = new byte[in.readInt()];
            in.readFully(code);
            method.handlers = in.readUnsignedShort();
            in.skipBytes(8 * method.handlers);
            skipAttributes(in);
            walk(code, method);
        }
    }

    private void walk(byte[] code, Method method) {
        for (int at = 0; at < code.length; at += size(code, at)) {
            int op = code[at] & 255;
            if (op >= 182 && op <= 185) {
                method.calls.add(named(number(code, at + 1, 2)));
            } else if (op == 187 || op == 189 || op == 197) {
                method.made.add((op == 187 ? "" : "[") + named(number(code, at + 1, 2)));
            } else if (op == 188) {
                method.made.add("[" + "ZCFDBSIJ".charAt(code[at + 1] - 4));
            }
            method.throwing += op == 191 ? 1 : 0;
            method.isDynamic |= op == 186;
            method.locks |= op == 194 || op == 195;
        }
    }

    private static int number(byte[] code, int at, int bytes) {
        int number = 0;
        for (int i = 0; i < bytes; i++) {
            number = number << 8 | code[at + i] & 255;
        }
        return number;
    }

    /** How many bytes an instruction has, its opcode too. */
    private static int size(byte[] code, int at) {
        int op = code[at] & 255;
        int table = (at + 4) / 4 * 4;
        if (op == TABLE_SWITCH) {
            return table + 12 + 4 * (number(code, table + 8, 4) - number(code, table + 4, 4) + 1) - at;
        }
        if (op == LOOKUP_SWITCH) {
            return table + 8 + 8 * number(code, table + 4, 4) - at;
        }
        if (op == WIDE) {
            return code[at + 1] == (byte) 132 ? 6 : 4;
        }
        boolean one = op == 16 || op == 18 || op >= 21 && op <= 25 || op >= 54 && op <= 58 || op == 169 || op == 188;
        boolean two = op == 17 || op == 19 || op == 20 || op == 132 || op >= 153 && op <= 168 || op >= 178 && op <= 184
                || op == 187 || op == 189 || op == 192 || op == 193 || op == 198 || op == 199;
        boolean four = op == 185 || op == 186 || op == 200 || op == 201;
        return op == 197 ? 4 : four ? 5 : two ? 3 : one ? 2 : 1;
    }
}
