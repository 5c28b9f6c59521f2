import java.util.Arrays;

/** Promise 7, I. READING: SHORT, MAGIC, VERSION, TAG, TEXT, REFERENCE, TWICE, ATTRIBUTE and MORE. */
public final class ReadingTest {
    private static final Checks CHECKS = new Checks();

    private ReadingTest() {
    }

    public static void main(String[] args) {
        head();
        shortAtEveryNumber();
        everyTag();
        texts();
        longs();
        attributes();
        codeTwice();
        codeNotWithin();
        codeLeft();
        namesInCode();
        onlyMethodsHaveCode();
        more();
        readingComesBeforeLinking();
        CHECKS.end();
    }

    private static byte[] plain() {
        return new ClassMaker().make();
    }

    private static byte[] with(byte[] bytes, int at, int value) {
        byte[] row = bytes.clone();
        row[at] = (byte) value;
        return row;
    }

    private static void head() {
        CHECKS.dueNone("a plain class", plain());
        for (int at = 0; at < 4; at++) {
            CHECKS.dueFault("magic " + at, with(plain(), at, 0), ShippedClass.MAGIC, 0);
        }
        CHECKS.dueFault("no bytes", new byte[0], ShippedClass.SHORT, 0);
        CHECKS.dueFault("three bytes that are no magic", new byte[3], ShippedClass.SHORT, 0);
        CHECKS.dueFault("four bytes that are no magic", new byte[4], ShippedClass.MAGIC, 0);
        for (int version = 43; version <= 67; version++) {
            boolean isRight = version >= 45 && version <= 65;
            CHECKS.dueFault("version " + version, with(plain(), 7, version),
                    isRight ? 0 : ShippedClass.VERSION, isRight ? ShippedClass.NONE : 6);
        }
        CHECKS.dueFault("version 256 + 61", with(plain(), 6, 1), ShippedClass.VERSION, 6);
        CHECKS.dueNone("another minor", with(with(plain(), 4, 255), 5, 255));
    }

    /** A file that is cut within a number, or before it, is SHORT where the number begins. */
    private static void shortAtEveryNumber() {
        ClassMaker maker = new ClassMaker();
        int four = maker.intOf(5);
        int wide = maker.longOf(6);
        int string = maker.stringAt(maker.text("abc"));
        int use = maker.ownField("f", "I");
        maker.implementing(maker.parent);
        ClassMaker.Member field = maker.field(0, "f", "I");
        field.attributes.add(ClassMaker.attribute(1, 9, 9, 9));
        ClassMaker.Member m = maker.code("()V", 0, 0, 177);
        byte[] bytes = maker.make();
        ShippedClass x = Checks.fed(bytes);
        CHECKS.dueFault("the whole of it", x, 0, ShippedClass.NONE);
        dueShort(bytes, maker.attributesAt, 2);
        dueShort(bytes, m.at - 2, 2, 2, 2, 2, 2, 2, 4, 13);
        dueShort(bytes, maker.fieldsAt, 2, 2, 2, 2, 2, 2, 4, 3);
        dueShort(bytes, maker.thisAt - 2, 2, 2, 2, 2, 2);
        dueShort(bytes, maker.placeOf(use), 1, 2, 2);
        dueShort(bytes, maker.placeOf(string), 1, 2);
        dueShort(bytes, maker.placeOf(string - 1), 1, 2, 3);
        dueShort(bytes, maker.placeOf(wide), 1, 4, 4);
        dueShort(bytes, maker.placeOf(four), 1, 4);
        dueShort(bytes, 0, 4, 2, 2, 2, 1, 2, 3, 1, 2);
    }

    private static void dueShort(byte[] bytes, int from, int... lengths) {
        int begin = from;
        for (int length : lengths) {
            for (int size = begin; size < begin + length; size++) {
                CHECKS.dueFault("cut to " + size, Arrays.copyOf(bytes, size), ShippedClass.SHORT, begin);
            }
            begin += length;
        }
    }

    private static void everyTag() {
        for (int tag = 0; tag < 256; tag++) {
            byte[] bytes = ClassMaker.bytes(0xCA, 0xFE, 0xBA, 0xBE, 0, 0, 0, 61, 0, 2, tag);
            boolean isThere = tag == 1 || tag == 3 || tag == 5 || tag == 7 || tag == 8 || tag == 9 || tag == 10 || tag == 12;
            CHECKS.dueFault("tag " + tag, bytes, isThere ? ShippedClass.SHORT : ShippedClass.TAG, isThere ? 11 : 10);
        }
        ClassMaker maker = new ClassMaker();
        int wrong = maker.constant(1, 2, 0, 0);
        byte[] bytes = maker.make();
        CHECKS.dueFault("a tag in the midst", bytes, ShippedClass.TAG, maker.placeOf(wrong));
    }

    private static void texts() {
        for (int letter : new int[] {0, 1, 127, 128, 255}) {
            ClassMaker maker = new ClassMaker();
            int text = maker.constant(1, 1, 0, 3, 'a', letter, 0);
            maker.make();
            boolean isRight = letter == 1 || letter == 127;
            int at = maker.placeOf(text) + 3 + (isRight ? 2 : 1);
            CHECKS.dueFault("letter " + letter, maker.make(), ShippedClass.TEXT, at);
        }
        ClassMaker maker = new ClassMaker();
        maker.text("");
        maker.constant(1, 1, 0, 2, 1, 127);
        CHECKS.dueNone("an empty text, and the least and the highest letter", maker.make());
        ClassMaker cut = new ClassMaker();
        int text = cut.constant(1, 1, 0, 200, 0, 0);
        byte[] bytes = Arrays.copyOf(cut.make(), cut.placeOf(text) + 5);
        CHECKS.dueFault("SHORT before TEXT", bytes, ShippedClass.SHORT, cut.placeOf(text) + 3);
    }

    private static void longs() {
        ClassMaker maker = new ClassMaker();
        int wide = maker.longOf(1);
        CHECKS.dueNone("a LONG below n", maker.make());
        maker.numbers = wide + 1;
        ShippedClass x = Checks.fed(maker.make());
        CHECKS.dueFault("a LONG whose second number is n", x, 0, ShippedClass.NONE);
        CHECKS.due("n less 1", x.count(0), wide);
        ClassMaker half = new ClassMaker();
        int first = half.longOf(1);
        half.attributes.add(ClassMaker.attribute(first + 1));
        CHECKS.dueFault("the second number of a LONG is no CONSTANT", half.make(), ShippedClass.REFERENCE,
                half.attributesAt + 2);
    }

    private static void attributes() {
        for (int what = 0; what < 3; what++) {
            ClassMaker maker = new ClassMaker();
            byte[] row = ClassMaker.attribute(what == 0 ? 0 : what == 1 ? maker.self : 999, 1, 2);
            maker.attributes.add(ClassMaker.attribute(1));
            maker.attributes.add(row);
            byte[] bytes = maker.make();
            CHECKS.dueFault("a name that is no TEXT " + what, bytes, ShippedClass.REFERENCE, maker.attributesAt + 8);
        }
        ClassMaker maker = new ClassMaker();
        maker.attributes.add(ClassMaker.bytes(0, 0, 0, 0));
        CHECKS.dueFault("REFERENCE before SHORT", maker.make(), ShippedClass.REFERENCE, maker.attributesAt + 2);
        ClassMaker large = new ClassMaker();
        large.attributes.add(ClassMaker.bytes(0, 1, 255, 255, 255, 255, 7));
        CHECKS.dueFault("a length without a sign", large.make(), ShippedClass.SHORT, large.attributesAt + 8);
        ClassMaker field = new ClassMaker();
        field.field(0, "f", "I").attributes.add(ClassMaker.attribute(2, 1));
        CHECKS.dueFault("an attribute of a FIELD", field.make(), ShippedClass.REFERENCE, field.fieldsAt + 10);
    }

    private static void codeTwice() {
        ClassMaker maker = new ClassMaker();
        ClassMaker.Member m = maker.code("()V", 0, 0, 177);
        m.attributes.add(ClassMaker.attribute(maker.text("Cod"), 1));
        m.attributes.add(ClassMaker.attribute(maker.text("Code"), 1));
        byte[] bytes = maker.make();
        CHECKS.dueFault("a second CODE", bytes, ShippedClass.TWICE, maker.attributesAt - 7);
        CHECKS.dueFault("a second CODE that is not all there", Arrays.copyOf(bytes, maker.attributesAt - 1),
                ShippedClass.SHORT, maker.attributesAt - 1);
    }

    private static ClassMaker.Member codeOf(ClassMaker maker, int... row) {
        ClassMaker.Member m = maker.method(8, "m", "()V");
        m.attributes.add(ClassMaker.attribute(maker.text("Code"), row));
        return m;
    }

    private static void codeNotWithin() {
        int[] whole = {0, 0, 0, 0, 0, 0, 0, 1, 177, 0, 1, 0, 0, 0, 1, 0, 0, 0, 0, 0, 1, 0, 1, 0, 0, 0, 1, 9};
        for (int size = 0; size <= whole.length; size++) {
            ClassMaker maker = new ClassMaker();
            ClassMaker.Member m = codeOf(maker, Arrays.copyOf(whole, size));
            byte[] bytes = maker.make();
            boolean isRight = size == whole.length;
            CHECKS.dueFault("a CODE of " + size + " bytes", bytes, isRight ? ShippedClass.STACK : ShippedClass.ATTRIBUTE,
                    isRight ? m.at + 22 : m.at + 8);
        }
        for (int[] row : new int[][] {{0, 0, 0, 0, 255, 255, 255, 255, 177, 0, 0, 0, 0},
                {0, 0, 0, 0, 0, 0, 0, 1, 177, 255, 255, 0, 0}, {0, 0, 0, 0, 0, 0, 0, 1, 177, 0, 0, 255, 255},
                {0, 0, 0, 0, 0, 0, 0, 1, 177, 0, 0, 0, 1, 0, 1, 255, 255, 255, 255, 1}}) {
            ClassMaker maker = new ClassMaker();
            ClassMaker.Member m = codeOf(maker, row);
            CHECKS.dueFault("a large number " + Arrays.toString(row), maker.make(), ShippedClass.ATTRIBUTE, m.at + 8);
        }
    }

    private static void codeLeft() {
        ClassMaker maker = new ClassMaker();
        ClassMaker.Member m = maker.code("()V", 0, 0, 177);
        m.code.left = new byte[1];
        CHECKS.dueFault("a byte is left", maker.make(), ShippedClass.ATTRIBUTE, m.attributeAt);
        ClassMaker none = new ClassMaker();
        ClassMaker.Member n = none.code("()V", 0, 0);
        CHECKS.dueFault("no instruction", none.make(), ShippedClass.ATTRIBUTE, n.attributeAt);
    }

    private static void namesInCode() {
        ClassMaker maker = new ClassMaker();
        ClassMaker.Member m = maker.code("()V", 0, 0, 177);
        m.code.attributes.add(ClassMaker.attribute(1, 5));
        m.code.attributes.add(ClassMaker.attribute(2));
        m.code.left = new byte[3];
        CHECKS.dueFault("a name in the CODE", maker.make(), ShippedClass.REFERENCE, m.codeAt + 1 + 4 + 7);
        ClassMaker bare = new ClassMaker();
        ClassMaker.Member b = bare.code("()V", 0, 0, 177);
        b.code.attributes.add(ClassMaker.bytes(0, 2));
        CHECKS.dueFault("a name and nothing more", bare.make(), ShippedClass.REFERENCE, b.codeAt + 1 + 4);
        b.code.attributes.set(0, ClassMaker.bytes(0, 1));
        CHECKS.dueFault("a right name and nothing more", bare.make(), ShippedClass.ATTRIBUTE, b.attributeAt);
        ClassMaker right = new ClassMaker();
        int code = right.text("Code");
        ClassMaker.Member n = right.code("()V", 0, 0, 177);
        n.code.attributes.add(ClassMaker.attribute(code, 5));
        n.code.attributes.add(ClassMaker.attribute(code));
        CHECKS.dueNone("attributes of the CODE named Code", right.make());
    }

    private static void onlyMethodsHaveCode() {
        ClassMaker maker = new ClassMaker();
        int code = maker.text("Code");
        ClassMaker.Member field = maker.field(0, "f", "I");
        field.attributes.add(ClassMaker.attribute(code, 1));
        field.attributes.add(ClassMaker.attribute(code));
        maker.attributes.add(ClassMaker.attribute(code, 1, 2));
        maker.attributes.add(ClassMaker.attribute(code));
        CHECKS.dueNone("attributes of others named Code", maker.make());
        ClassMaker like = new ClassMaker();
        ClassMaker.Member m = like.code("()V", 0, 0, 177);
        for (String name : new String[] {"code", "Mode", "Codex", "Cod", ""}) {
            m.attributes.add(ClassMaker.attribute(like.text(name), 1));
        }
        CHECKS.dueNone("names like Code", like.make());
    }

    private static void more() {
        byte[] bytes = plain();
        CHECKS.dueFault("a byte more", Arrays.copyOf(bytes, bytes.length + 1), ShippedClass.MORE, bytes.length);
        CHECKS.dueFault("many more", Arrays.copyOf(bytes, 600), ShippedClass.MORE, bytes.length);
    }

    private static void readingComesBeforeLinking() {
        ClassMaker maker = new ClassMaker();
        maker.classAt(0);
        maker.parent = 0;
        byte[] bytes = maker.make();
        CHECKS.dueFault("MORE before REFERENCE", Arrays.copyOf(bytes, bytes.length + 1), ShippedClass.MORE, bytes.length);
    }
}
