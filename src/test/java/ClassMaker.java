import java.io.ByteArrayOutputStream;
import java.util.ArrayList;
import java.util.List;

/** Writes class files, right ones and wrong ones, and tells where everything in them begins. */
final class ClassMaker {
    static final int STATIC = 8;
    static final int NATIVE = 0x100;
    static final int ABSTRACT = 0x400;

    int version = 61;
    int flags = 0x21;
    int self;
    int parent;
    int thisAt;
    int interfacesAt;
    int fieldsAt;
    int methodsAt;
    int attributesAt;
    /** How many constants the file says it has; NONE for as many as there are. */
    int numbers = ShippedClass.NONE;

    private final List<byte[]> constants = new ArrayList<>();
    private final List<Integer> constantNumbers = new ArrayList<>();
    private int nextNumber = 1;
    private final List<Integer> interfaces = new ArrayList<>();
    final List<Member> fields = new ArrayList<>();
    final List<Member> methods = new ArrayList<>();
    final List<byte[]> attributes = new ArrayList<>();

    static final class Member {
        int flags;
        int name;
        int type;
        /** PLACES, known once the file is made. */
        int at;
        int attributeAt;
        int codeAt;
        int handlersAt;
        final List<byte[]> attributes = new ArrayList<>();
        Code code;
    }

    static final class Code {
        int name;
        int stack;
        int locals;
        byte[] instructions;
        final List<int[]> handlers = new ArrayList<>();
        final List<byte[]> attributes = new ArrayList<>();
        byte[] left = {};

        Code handler(int start, int end, int to, int type) {
            handlers.add(new int[] {start, end, to, type});
            return this;
        }
    }

    /** A class named Own, below Up. */
    ClassMaker() {
        self = classOf("Own");
        parent = classOf("Up");
    }

    static byte[] bytes(int... values) {
        byte[] row = new byte[values.length];
        for (int i = 0; i < values.length; i++) {
            row[i] = (byte) values[i];
        }
        return row;
    }

    static byte[] letters(String text) {
        byte[] row = new byte[text.length()];
        for (int i = 0; i < row.length; i++) {
            row[i] = (byte) text.charAt(i);
        }
        return row;
    }

    int constant(int width, int... values) {
        return constant(width, bytes(values));
    }

    private int constant(int width, byte[] row) {
        int number = nextNumber;
        constants.add(row);
        constantNumbers.add(number);
        nextNumber += width;
        return number;
    }

    int text(String text) {
        ByteArrayOutputStream to = new ByteArrayOutputStream();
        to.write(1);
        two(to, text.length());
        to.writeBytes(letters(text));
        return constant(1, to.toByteArray());
    }

    private int told(int tag, int... numbers) {
        ByteArrayOutputStream to = new ByteArrayOutputStream();
        to.write(tag);
        for (int number : numbers) {
            two(to, number);
        }
        return constant(1, to.toByteArray());
    }

    int intOf(int value) {
        return constant(1, 3, value >>> 24, value >>> 16, value >>> 8, value);
    }

    int longOf(int value) {
        return constant(2, 5, 0, 0, 0, 0, value >>> 24, value >>> 16, value >>> 8, value);
    }

    int classAt(int text) {
        return told(7, text);
    }

    int classOf(String name) {
        return classAt(text(name));
    }

    int stringAt(int text) {
        return told(8, text);
    }

    int fieldAt(int owner, int pair) {
        return told(9, owner, pair);
    }

    int methodAt(int owner, int pair) {
        return told(10, owner, pair);
    }

    int pairAt(int name, int type) {
        return told(12, name, type);
    }

    int pairOf(String name, String type) {
        return pairAt(text(name), text(type));
    }

    int ownField(String name, String type) {
        return fieldAt(self, pairOf(name, type));
    }

    int ownMethod(String name, String type) {
        return methodAt(self, pairOf(name, type));
    }

    ClassMaker implementing(int number) {
        interfaces.add(number);
        return this;
    }

    Member field(int flags, String name, String type) {
        return member(fields, flags, text(name), text(type));
    }

    Member method(int flags, String name, String type) {
        return member(methods, flags, text(name), text(type));
    }

    Member member(List<Member> to, int flags, int name, int type) {
        Member member = new Member();
        member.flags = flags;
        member.name = name;
        member.type = type;
        to.add(member);
        return member;
    }

    Member method(int flags, String name, String type, int stack, int locals, int... instructions) {
        Member member = method(flags, name, type);
        code(member, stack, locals, instructions);
        return member;
    }

    /** The usual one: static, named m. */
    Member code(String type, int stack, int locals, int... instructions) {
        return method(STATIC, "m", type, stack, locals, instructions);
    }

    Code code(Member member, int stack, int locals, int... instructions) {
        Code code = new Code();
        code.name = text("Code");
        code.stack = stack;
        code.locals = locals;
        code.instructions = bytes(instructions);
        member.code = code;
        return code;
    }

    static byte[] attribute(int name, int... values) {
        ByteArrayOutputStream to = new ByteArrayOutputStream();
        two(to, name);
        four(to, values.length);
        to.writeBytes(bytes(values));
        return to.toByteArray();
    }

    static byte[] codeBytes(Code code) {
        ByteArrayOutputStream to = new ByteArrayOutputStream();
        two(to, code.stack);
        two(to, code.locals);
        four(to, code.instructions.length);
        to.writeBytes(code.instructions);
        two(to, code.handlers.size());
        for (int[] handler : code.handlers) {
            for (int number : handler) {
                two(to, number);
            }
        }
        two(to, code.attributes.size());
        for (byte[] row : code.attributes) {
            to.writeBytes(row);
        }
        to.writeBytes(code.left);
        return to.toByteArray();
    }

    private final List<Integer> places = new ArrayList<>();

    int placeOf(int constant) {
        return places.get(constantNumbers.indexOf(constant));
    }

    byte[] make() {
        ByteArrayOutputStream to = new ByteArrayOutputStream();
        four(to, 0xCAFEBABE);
        two(to, 0);
        two(to, version);
        two(to, numbers == ShippedClass.NONE ? nextNumber : numbers);
        places.clear();
        for (byte[] row : constants) {
            places.add(to.size());
            to.writeBytes(row);
        }
        two(to, flags);
        thisAt = to.size();
        two(to, self);
        two(to, parent);
        two(to, interfaces.size());
        interfacesAt = to.size();
        for (int number : interfaces) {
            two(to, number);
        }
        fieldsAt = to.size();
        members(to, fields);
        methodsAt = to.size();
        members(to, methods);
        attributesAt = to.size();
        two(to, attributes.size());
        for (byte[] row : attributes) {
            to.writeBytes(row);
        }
        return to.toByteArray();
    }

    private static void members(ByteArrayOutputStream to, List<Member> members) {
        two(to, members.size());
        for (Member member : members) {
            member.at = to.size();
            two(to, member.flags);
            two(to, member.name);
            two(to, member.type);
            two(to, member.attributes.size() + (member.code == null ? 0 : 1));
            if (member.code != null) {
                member.attributeAt = to.size();
                member.codeAt = to.size() + 14;
                member.handlersAt = member.codeAt + member.code.instructions.length + 2;
                byte[] row = codeBytes(member.code);
                two(to, member.code.name);
                four(to, row.length);
                to.writeBytes(row);
            }
            for (byte[] row : member.attributes) {
                to.writeBytes(row);
            }
        }
    }

    private static void two(ByteArrayOutputStream to, int value) {
        to.write(value >>> 8);
        to.write(value);
    }

    private static void four(ByteArrayOutputStream to, int value) {
        two(to, value >>> 16);
        two(to, value);
    }
}
