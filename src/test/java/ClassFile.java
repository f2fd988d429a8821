import java.io.ByteArrayInputStream;
import java.io.DataInputStream;
import java.io.IOException;
import java.io.InputStream;
import java.util.ArrayList;
import java.util.List;

/** What javac has made of a class: its methods, with what they call, make and throw. */
final class ClassFile {
    static final int ATHROW = 191;
    static final int NEW = 187;
    private static final int TABLESWITCH = 170;
    private static final int LOOKUPSWITCH = 171;
    private static final int IINC = 132;
    private static final int WIDE = 196;

    /** A method, named as in Ship.passDay. */
    static final class Method {
        String owner = "";
        String name = "";
        String descriptor = "";
        boolean catches = false;
        int firstLine = 0;
        int lastLine = 0;
        final List<Integer> codes = new ArrayList<>();
        /** Methods of any class, as in Ship.passDay or java/lang/Math.min. */
        final List<String> calls = new ArrayList<>();
        /** What stands behind new. */
        final List<String> makes = new ArrayList<>();

        boolean isConstructor() {
            return name.endsWith(".<init>");
        }

        boolean has(int from, int to) {
            return codes.stream().anyMatch(code -> code >= from && code <= to);
        }
    }

    private final DataInputStream in;
    private final String name;
    private int[] tags = {};
    private int[] first = {};
    private int[] second = {};
    private String[] texts = {};
    final List<Method> methods = new ArrayList<>();

    ClassFile(Class<?> of) throws IOException {
        name = of.getName();
        try (InputStream stream = of.getResourceAsStream(name + ".class")) {
            in = new DataInputStream(new ByteArrayInputStream(stream.readAllBytes()));
        }
        in.skipBytes(8);
        readPool();
        in.skipBytes(6);
        in.skipBytes(2 * in.readUnsignedShort());
        int fields = in.readUnsignedShort();
        for (int i = 0; i < fields; i++) {
            in.skipBytes(6);
            skipAttributes();
        }
        int count = in.readUnsignedShort();
        for (int i = 0; i < count; i++) {
            readMethod();
        }
    }

    static String shortName(String className) {
        return className.equals("BiscuitMess") ? className : className.replace("BiscuitMess$", "");
    }

    private void readPool() throws IOException {
        int count = in.readUnsignedShort();
        tags = new int[count];
        first = new int[count];
        second = new int[count];
        texts = new String[count];
        for (int i = 1; i < count; i++) {
            tags[i] = in.readUnsignedByte();
            switch (tags[i]) {
                case 1: texts[i] = in.readUTF(); break;
                case 3:
                case 4: in.skipBytes(4); break;
                case 5:
                case 6: in.skipBytes(8); i++; break;
                case 7:
                case 8:
                case 16:
                case 19:
                case 20: first[i] = in.readUnsignedShort(); break;
                case 15: in.skipBytes(3); break;
                default:
                    first[i] = in.readUnsignedShort();
                    second[i] = in.readUnsignedShort();
            }
        }
    }

    private String classAt(int i) {
        return shortName(texts[first[i]]);
    }

    private String methodAt(int i) {
        return tags[i] == 18 ? "invokedynamic" : classAt(first[i]) + "." + texts[first[second[i]]];
    }

    private void skipAttributes() throws IOException {
        int count = in.readUnsignedShort();
        for (int i = 0; i < count; i++) {
            in.skipBytes(2);
            in.skipBytes(in.readInt());
        }
    }

    private void readMethod() throws IOException {
        Method method = new Method();
        in.skipBytes(2);
        method.owner = shortName(name);
        method.name = method.owner + "." + texts[in.readUnsignedShort()];
        method.descriptor = texts[in.readUnsignedShort()];
        int attributes = in.readUnsignedShort();
        for (int i = 0; i < attributes; i++) {
            String kind = texts[in.readUnsignedShort()];
            byte[] bytes = new byte[in.readInt()];
            in.readFully(bytes);
            if (kind.equals("Code")) {
                readCode(method, new DataInputStream(new ByteArrayInputStream(bytes)));
            }
        }
        methods.add(method);
    }

    private void readCode(Method method, DataInputStream data) throws IOException {
        data.skipBytes(4);
        byte[] code = new byte[data.readInt()];
        data.readFully(code);
        for (int at = 0; at < code.length; at += lengthOf(code, at)) {
            readInstruction(method, code, at);
        }
        int caught = data.readUnsignedShort();
        method.catches = caught > 0;
        data.skipBytes(8 * caught);
        int attributes = data.readUnsignedShort();
        for (int i = 0; i < attributes; i++) {
            String kind = texts[data.readUnsignedShort()];
            int length = data.readInt();
            if (!kind.equals("LineNumberTable")) {
                data.skipBytes(length);
                continue;
            }
            int lines = data.readUnsignedShort();
            for (int j = 0; j < lines; j++) {
                data.skipBytes(2);
                int line = data.readUnsignedShort();
                method.firstLine = method.firstLine == 0 ? line : Math.min(method.firstLine, line);
                method.lastLine = Math.max(method.lastLine, line);
            }
        }
    }

    private void readInstruction(Method method, byte[] code, int at) {
        int sign = code[at] & 255;
        method.codes.add(sign);
        if (sign >= 182 && sign <= 186) {
            method.calls.add(methodAt(two(code, at + 1)));
        } else if (sign == NEW) {
            method.makes.add(classAt(two(code, at + 1)));
        }
    }

    private static int two(byte[] code, int at) {
        return (code[at] & 255) << 8 | code[at + 1] & 255;
    }

    private static int four(byte[] code, int at) {
        return two(code, at) << 16 | two(code, at + 2);
    }

    private static int lengthOf(byte[] code, int at) {
        int sign = code[at] & 255;
        int table = 4 - at % 4;
        if (sign == TABLESWITCH) {
            return table + 12 + 4 * (four(code, at + table + 8) - four(code, at + table + 4) + 1);
        }
        if (sign == LOOKUPSWITCH) {
            return table + 8 + 8 * four(code, at + table + 4);
        }
        if (sign == WIDE) {
            return (code[at + 1] & 255) == IINC ? 6 : 4;
        }
        if (sign == 185 || sign == 186 || sign >= 200) {
            return 5;
        }
        if (sign == 197) {
            return 4;
        }
        boolean three = sign == 17 || sign == 19 || sign == 20 || sign == IINC || sign >= 153 && sign <= 168
                || sign >= 178 && sign <= 184 || sign == NEW || sign == 189 || sign == 192 || sign == 193
                || sign == 198 || sign == 199;
        boolean two = sign == 16 || sign == 18 || sign >= 21 && sign <= 25 || sign >= 54 && sign <= 58
                || sign == 169 || sign == 188;
        return three ? 3 : two ? 2 : 1;
    }
}
