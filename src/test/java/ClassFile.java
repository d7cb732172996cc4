import java.io.DataInputStream;
import java.io.IOException;
import java.io.InputStream;
import java.util.ArrayList;
import java.util.LinkedHashMap;
import java.util.List;
import java.util.Map;

/** What a compiled class refers to, read from its file: the methods that each of its methods calls. */
final class ClassFile {
    /** How many bytes each instruction has, from 0 on; 0 of those whose length the reader works out. */
    private static final String LENGTHS =
        "1111111111111111" + "2323322222111111" + "1111111111111111" + "1111112222211111"
        + "1111111111111111" + "1111111111111111" + "1111111111111111" + "1111111111111111"
        + "1111311111111111" + "1111111113333333" + "3333333332001111" + "1133333335532311"
        + "3311043355";
    private static final int TABLESWITCH = 170, LOOKUPSWITCH = 171, WIDE = 196, IINC = 132, ATHROW = 191;
    private static final int FIRST_INVOKE = 182, LAST_INVOKE = 186, INVOKEDYNAMIC = 186, NEW = 187;
    private static final int NEWARRAY = 188, ANEWARRAY = 189, MULTIANEWARRAY = 197;

    /** All methods (class, name, descriptor), each with those that it calls. */
    final Map<String, List<String>> calls = new LinkedHashMap<>();
    /** The classes whose objects each method makes; "an array" of each array. */
    final Map<String, List<String>> makes = new LinkedHashMap<>();
    /** The methods that hold a throw statement. */
    final List<String> throwers = new ArrayList<>();
    /** The classes that are caught. */
    final List<String> caught = new ArrayList<>();

    private final Object[] pool;
    private final String name;

    ClassFile(InputStream bytes) throws IOException {
        DataInputStream in = new DataInputStream(bytes);
        in.readInt();
        in.readInt();
        pool = new Object[in.readUnsignedShort()];
        readPool(in);
        in.readUnsignedShort();
        name = classAt(in.readUnsignedShort());
        in.readUnsignedShort();
        in.skipBytes(2 * in.readUnsignedShort());
        readMembers(in);
        readMembers(in);
    }

    private void readPool(DataInputStream in) throws IOException {
        for (int i = 1; i < pool.length; i++) {
            int tag = in.readUnsignedByte();
            switch (tag) {
                case 1 -> pool[i] = in.readUTF();
                case 3, 4 -> in.readInt();
                case 5, 6 -> {
                    in.readLong();
                    i++;
                }
                case 7, 8, 16, 19, 20 -> pool[i] = new int[] {in.readUnsignedShort()};
                case 9, 10, 11, 12, 17, 18 ->
                    pool[i] = new int[] {in.readUnsignedShort(), in.readUnsignedShort()};
                case 15 -> pool[i] = new int[] {in.readUnsignedByte(), in.readUnsignedShort()};
                default -> throw new IOException("a class file with the tag " + tag);
            }
        }
    }

    private int part(int index, int which) {
        return ((int[]) pool[index])[which];
    }

    private String classAt(int index) {
        return (String) pool[part(index, 0)];
    }

    /** Class, name and descriptor of the method that is called. */
    private String methodAt(int index) {
        int signature = part(index, 1);
        return classAt(part(index, 0)) + "." + pool[part(signature, 0)] + pool[part(signature, 1)];
    }

    private void readMembers(DataInputStream in) throws IOException {
        int count = in.readUnsignedShort();
        for (int i = 0; i < count; i++) {
            in.readUnsignedShort();
            String member = name + "." + pool[in.readUnsignedShort()] + pool[in.readUnsignedShort()];
            int attributes = in.readUnsignedShort();
            for (int a = 0; a < attributes; a++) {
                boolean isCode = "Code".equals(pool[in.readUnsignedShort()]);
                byte[] bytes = new byte[in.readInt()];
                in.readFully(bytes);
                if (isCode) {
                    readCode(member, bytes);
                }
            }
        }
    }

    private static int twoAt(byte[] bytes, int at) {
        return (bytes[at] & 255) << 8 | bytes[at + 1] & 255;
    }

    private static int fourAt(byte[] bytes, int at) {
        return twoAt(bytes, at) << 16 | twoAt(bytes, at + 2);
    }

    private void readCode(String member, byte[] bytes) {
        List<String> called = new ArrayList<>();
        List<String> made = new ArrayList<>();
        int end = 8 + fourAt(bytes, 4);
        for (int at = 8; at < end; at += lengthAt(bytes, at)) {
            int instruction = bytes[at] & 255;
            if (instruction == INVOKEDYNAMIC) {
                called.add("invokedynamic");
            } else if (instruction >= FIRST_INVOKE && instruction <= LAST_INVOKE) {
                called.add(methodAt(twoAt(bytes, at + 1)));
            } else if (instruction == NEW) {
                made.add(classAt(twoAt(bytes, at + 1)));
            } else if (instruction == NEWARRAY || instruction == ANEWARRAY || instruction == MULTIANEWARRAY) {
                made.add("an array");
            } else if (instruction == ATHROW) {
                throwers.add(member);
            }
        }
        for (int i = 0; i < twoAt(bytes, end); i++) {
            int type = twoAt(bytes, end + 2 + 8 * i + 6);
            caught.add(type == 0 ? "finally" : classAt(type));
        }
        calls.put(member, called);
        makes.put(member, made);
    }

    private static int lengthAt(byte[] bytes, int at) {
        int instruction = bytes[at] & 255;
        int operands = 8 + (at - 8 + 4) / 4 * 4;
        if (instruction == TABLESWITCH) {
            int count = fourAt(bytes, operands + 8) - fourAt(bytes, operands + 4) + 1;
            return operands + 12 + 4 * count - at;
        }
        if (instruction == LOOKUPSWITCH) {
            return operands + 8 + 8 * fourAt(bytes, operands + 4) - at;
        }
        if (instruction == WIDE) {
            return (bytes[at + 1] & 255) == IINC ? 6 : 4;
        }
        if (instruction >= LENGTHS.length()) {
            throw new AssertionError("a class file with the instruction " + instruction);
        }
        return LENGTHS.charAt(instruction) - '0';
    }
}
