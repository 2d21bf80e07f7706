import java.io.DataInputStream;
import java.io.IOException;
import java.nio.ByteBuffer;
import java.util.ArrayList;
import java.util.List;
import java.util.Set;
import java.util.TreeSet;

/** What the tests read in a compiled class: its methods, whom they call, what they make, and on which lines. */
final class ClassFile {
    /** A method by its full name, "Owner.name:descriptor"; what it makes are the classes, and "an array". */
    static final class Code {
        final String name;
        final Set<String> calls = new TreeSet<>();
        final Set<String> makes = new TreeSet<>();
        final int lines;

        private Code(String name, int lines) {
            this.name = name;
            this.lines = lines;
        }
    }

    private static final int WIDE = 196, TABLE_SWITCH = 170, LOOKUP_SWITCH = 171;

    private final DataInputStream in;
    private final List<Object> constants = new ArrayList<>();
    private final List<Code> methods = new ArrayList<>();
    private String className;

    private ClassFile(DataInputStream in) {
        this.in = in;
    }

    static List<Code> methodsOf(String className) throws IOException {
        try (DataInputStream in = new DataInputStream(
                ClassFile.class.getResourceAsStream("/" + className + ".class"))) {
            ClassFile file = new ClassFile(in);
            file.read();
            return file.methods;
        }
    }

    private void read() throws IOException {
        in.skipNBytes(8);
        readConstants();
        in.skipNBytes(2);
        className = text(in.readUnsignedShort());
        in.skipNBytes(2);
        in.skipNBytes(2L * in.readUnsignedShort());
        for (int fields = in.readUnsignedShort(); fields > 0; fields--) {
            readMember();
        }
        for (int count = in.readUnsignedShort(); count > 0; count--) {
            readMember();
        }
    }

    /** A constant is kept as its text, or as the numbers of the constants that it is made of. */
    private void readConstants() throws IOException {
        int count = in.readUnsignedShort();
        constants.add(null);
        while (constants.size() < count) {
            int tag = in.readUnsignedByte();
            switch (tag) {
                case 1 -> constants.add(in.readUTF());
                case 3, 4 -> constants.add(in.readInt());
                case 5, 6 -> {
                    constants.add(in.readLong());
                    constants.add(null);
                }
                case 7, 8, 16, 19, 20 -> constants.add(new int[] {in.readUnsignedShort()});
                case 15 -> constants.add(new int[] {in.readUnsignedByte(), in.readUnsignedShort()});
                default -> constants.add(new int[] {in.readUnsignedShort(), in.readUnsignedShort()});
            }
        }
    }

    private String text(int index) {
        Object constant = constants.get(index);
        return constant instanceof int[] parts ? text(parts[0]) : String.valueOf(constant);
    }

    private String calledName(int index) {
        int[] method = (int[]) constants.get(index);
        int[] nameAndType = (int[]) constants.get(method[1]);
        return text(method[0]) + "." + text(nameAndType[0]) + ":" + text(nameAndType[1]);
    }

    /** Fields have no code, so that methods alone are found. */
    private void readMember() throws IOException {
        in.skipNBytes(2);
        String name = className + "." + text(in.readUnsignedShort()) + ":" + text(in.readUnsignedShort());
        for (int attributes = in.readUnsignedShort(); attributes > 0; attributes--) {
            String kind = text(in.readUnsignedShort());
            byte[] bytes = in.readNBytes(in.readInt());
            if (kind.equals("Code")) {
                methods.add(codeOf(name, ByteBuffer.wrap(bytes)));
            }
        }
    }

    private Code codeOf(String name, ByteBuffer bytes) {
        int length = bytes.getInt(4);
        ByteBuffer body = bytes.slice(8, length);
        bytes.position(8 + length);
        bytes.position(bytes.position() + 2 + 8 * bytes.getShort(bytes.position()));
        Code code = new Code(name, linesOf(bytes));
        for (int at = 0; at < length; at += sizeAt(body, at)) {
            note(code, body, at);
        }
        return code;
    }

    private int linesOf(ByteBuffer bytes) {
        int first = Integer.MAX_VALUE;
        int last = 0;
        for (int attributes = bytes.getShort(); attributes > 0; attributes--) {
            boolean isOfLines = text(bytes.getShort()).equals("LineNumberTable");
            int end = bytes.getInt() + bytes.position();
            for (int at = bytes.position() + 2; isOfLines && at < end; at += 4) {
                int line = Short.toUnsignedInt(bytes.getShort(at + 2));
                first = Math.min(first, line);
                last = Math.max(last, line);
            }
            bytes.position(end);
        }
        return last - first + 1;
    }

    private void note(Code code, ByteBuffer body, int at) {
        int operation = Byte.toUnsignedInt(body.get(at));
        switch (operation) {
            case 182, 183, 184, 185 -> code.calls.add(calledName(Short.toUnsignedInt(body.getShort(at + 1))));
            case 186 -> code.calls.add("a call that is bound at run time");
            case 187 -> code.makes.add(text(Short.toUnsignedInt(body.getShort(at + 1))));
            case 188, 189, 197 -> code.makes.add("an array");
            default -> { }
        }
    }

    private static int sizeAt(ByteBuffer body, int at) {
        int operation = Byte.toUnsignedInt(body.get(at));
        int aligned = (at + 4) / 4 * 4;
        switch (operation) {
            case TABLE_SWITCH:
                return aligned + 12 + 4 * (body.getInt(aligned + 8) - body.getInt(aligned + 4) + 1) - at;
            case LOOKUP_SWITCH:
                return aligned + 8 + 8 * body.getInt(aligned + 4) - at;
            case WIDE:
                return Byte.toUnsignedInt(body.get(at + 1)) == 132 ? 6 : 4;
            default:
                return sizeOf(operation);
        }
    }

    private static int sizeOf(int operation) {
        return switch (operation) {
            case 16, 18, 21, 22, 23, 24, 25, 54, 55, 56, 57, 58, 169, 188 -> 2;
            case 17, 19, 20, 132, 187, 189, 192, 193, 198, 199 -> 3;
            case 197 -> 4;
            case 185, 186, 200, 201 -> 5;
            default -> operation >= 153 && operation <= 168 || operation >= 178 && operation <= 184 ? 3 : 1;
        };
    }
}
