import java.util.Arrays;

/** Each sentence of I. READING that names a bound: at it, one below and one above it. */
public final class ReadingBoundsTest {
    private static final Checks CHECKS = new Checks();
    private static final int SHORT = ShippedClass.SHORT;
    private static final int REFERENCE = ShippedClass.REFERENCE;
    private static final int ATTRIBUTE = ShippedClass.ATTRIBUTE;

    private ReadingBoundsTest() {
    }

    public static void main(String[] args) {
        everyCut();
        magic();
        versions();
        howManyConstants();
        constantsBeyondAll();
        tags();
        textBytes();
        textLengths();
        longsAndTheNext();
        longsAtTheEnd();
        howManyInterfaces();
        howManyMembers();
        howManyAttributes();
        attributeNames();
        attributeLengths();
        secondCode();
        onlyOfAMethod();
        codeWithin();
        codeOfLargeNumbers();
        codeThatWrapsAround();
        codeLeft();
        codeOfNoInstruction();
        namesInCode();
        more();
        CHECKS.end();
    }

    private static byte[] head(int n, int... rest) {
        int[] row = {0xCA, 0xFE, 0xBA, 0xBE, 0, 0, 0, 61, n >> 8, n};
        byte[] all = Arrays.copyOf(ClassMaker.bytes(row), row.length + rest.length);
        System.arraycopy(ClassMaker.bytes(rest), 0, all, row.length, rest.length);
        return all;
    }

    private static byte[] withTwo(byte[] bytes, int at, int value) {
        byte[] row = bytes.clone();
        row[at] = (byte) (value >> 8);
        row[at + 1] = (byte) value;
        return row;
    }

    private static byte[] withFour(byte[] bytes, int at, int value) {
        return withTwo(withTwo(bytes, at, value >>> 16), at + 2, value & 0xFFFF);
    }

    private static ClassMaker withAll() {
        ClassMaker maker = new ClassMaker();
        maker.intOf(5);
        maker.longOf(6);
        maker.stringAt(maker.text(""));
        maker.ownField("f", "I");
        maker.ownMethod("m", "()V");
        maker.implementing(maker.parent).implementing(maker.self);
        ClassMaker.Member field = maker.field(0, "f", "I");
        field.attributes.add(ClassMaker.attribute(1, 9, 9, 9));
        field.attributes.add(ClassMaker.attribute(1));
        ClassMaker.Member m = maker.code("()V", 1, 0, 177, 191);
        m.code.handler(0, 1, 1, 0);
        m.code.attributes.add(ClassMaker.attribute(3, 7));
        m.attributes.add(ClassMaker.attribute(1, 8));
        maker.attributes.add(ClassMaker.attribute(3));
        maker.attributes.add(ClassMaker.attribute(1, 1, 2, 3, 4, 5));
        return maker;
    }

    private static void everyCut() {
        CHECKS.sentence("SHORT at the PLACE where one begins that is not all there (bytes of a TEXT, or of an "
                + "ATTRIBUTE, count as one)");
        byte[] bytes = withAll().make();
        int[] widths = {4, 2, 2, 2,
            1, 2, 3, 1, 2, 1, 2, 2, 1, 2, 1, 4, 1, 4, 4, 1, 2, 1, 2,
            1, 2, 1, 1, 2, 1, 1, 2, 2, 1, 2, 2,
            1, 2, 1, 1, 2, 3, 1, 2, 2, 1, 2, 2,
            1, 2, 1, 1, 2, 1, 1, 2, 1, 1, 2, 3, 1, 2, 4,
            2, 2, 2, 2, 2, 2,
            2, 2, 2, 2, 2, 2, 4, 3, 2, 4,
            2, 2, 2, 2, 2, 2, 4, 29, 2, 4, 1,
            2, 2, 4, 2, 4, 5};
        int begin = 0;
        for (int width : widths) {
            for (int size = begin; size < begin + width && size < bytes.length; size++) {
                CHECKS.dueFault("cut to " + size, Arrays.copyOf(bytes, size), SHORT, begin);
            }
            begin += width;
        }
        CHECKS.due("all of them", begin, bytes.length);
        CHECKS.dueNone("the whole of it", bytes);
    }

    private static void magic() {
        CHECKS.sentence("u4 0xCAFEBABE (MAGIC at 0)");
        byte[] bytes = new ClassMaker().make();
        CHECKS.dueNone("it is that", bytes);
        for (int bit = 0; bit < 32; bit++) {
            byte[] wrong = bytes.clone();
            wrong[bit / 8] ^= (byte) (1 << bit % 8);
            CHECKS.dueFault("bit " + bit, wrong, ShippedClass.MAGIC, 0);
            CHECKS.dueFault("bit " + bit + " of four bytes", Arrays.copyOf(wrong, 4), ShippedClass.MAGIC, 0);
            CHECKS.dueFault("bit " + bit + " of three bytes", Arrays.copyOf(wrong, 3), SHORT, 0);
        }
        CHECKS.dueFault("before VERSION", withTwo(new byte[60], 6, 66), ShippedClass.MAGIC, 0);
    }

    private static void versions() {
        CHECKS.sentence("u2, u2 45 .. 65 (VERSION at 6)");
        byte[] bytes = new ClassMaker().make();
        for (int version : new int[] {0, 1, 44, 45, 46, 64, 65, 66, 255, 256, 256 + 45, 256 + 65, 32768 + 45, 65535}) {
            byte[] row = withTwo(bytes, 6, version);
            CHECKS.dueFaultIf(version < 45 || version > 65, "version " + version, row, ShippedClass.VERSION, 6);
            boolean isWrong = version < 45 || version > 65;
            CHECKS.dueFault("version " + version + " and no more", Arrays.copyOf(row, 8),
                    isWrong ? ShippedClass.VERSION : SHORT, isWrong ? 6 : 8);
            CHECKS.dueFault("half of version " + version, Arrays.copyOf(row, 7), SHORT, 6);
        }
        for (int minor : new int[] {0, 44, 66, 65535}) {
            CHECKS.dueNone("any number before it " + minor, withTwo(bytes, 4, minor));
        }
    }

    private static void howManyConstants() {
        CHECKS.sentence("u2 n; CONSTANTS from 1 on, below n");
        for (int n = 0; n < 2; n++) {
            byte[] none = Arrays.copyOf(head(n), 10 + 14);
            CHECKS.dueFault("none with n " + n, none, REFERENCE, 12);
            CHECKS.dueFault("none with n " + n + ", and a byte more", Arrays.copyOf(none, 25), ShippedClass.MORE, 24);
            CHECKS.dueFault("none with n " + n + ", and one less", Arrays.copyOf(none, 23), SHORT, 22);
        }
        byte[] one = Arrays.copyOf(head(2, 1, 0, 0), 13 + 14);
        CHECKS.dueFault("one with n 2", one, REFERENCE, 15);
        byte[] two = Arrays.copyOf(head(3, 1, 0, 0, 1, 0, 0), 16 + 14);
        CHECKS.dueFault("two with n 3", two, REFERENCE, 18);
        ClassMaker maker = new ClassMaker();
        byte[] bytes = maker.make();
        CHECKS.due("the right n", bytes[9], 5);
        // One more: the first byte of the flags is read as a tag.
        CHECKS.dueFault("n is one more", withTwo(bytes, 8, 6), ShippedClass.TAG, maker.thisAt - 2);
        // One less: the last CLASS is read as flags, and so on.
        CHECKS.dueFault("n is one less", withTwo(bytes, 8, 4), SHORT, bytes.length - 1);
        ShippedClass x = Checks.fed(bytes);
        CHECKS.dueFault("n is right", x, 0, ShippedClass.NONE);
        CHECKS.due("n less 1", x.count(0), 4);
    }

    private static void constantsBeyondAll() {
        CHECKS.sentence("CONSTANTS from 1 on, below n: a tag");
        int[] texts = new int[590];
        for (int at = 0; at + 2 < texts.length; at += 3) {
            texts[at] = 1;
        }
        texts[588] = 1;
        // 196 empty TEXTS are 588 bytes; the two that are left are less than another one.
        CHECKS.dueFault("as many as 600 bytes have", head(65535, texts), SHORT, 599);
        CHECKS.dueFault("all that are told are there", head(197, Arrays.copyOf(texts, 588)), SHORT, 598);
        CHECKS.dueFault("n of 198", head(198, Arrays.copyOf(texts, 588)), SHORT, 598);
        CHECKS.dueFault("n of 256", head(256, Arrays.copyOf(texts, 588)), SHORT, 598);
        int[] shorter = Arrays.copyOf(texts, 570 + 14);
        Arrays.fill(shorter, 570, 584, 0);
        CHECKS.dueFault("190 TEXTS and no CLASS", head(191, shorter), REFERENCE, 582);
    }

    private static void tags() {
        CHECKS.sentence("a tag, at which its PLACE is (TAG, if it is none of these)");
        int[] right = {1, 3, 5, 7, 8, 9, 10, 12};
        int[] widths = {2, 4, 4, 2, 2, 2, 2, 2};
        for (int tag = 0; tag < 256; tag++) {
            int which = Arrays.binarySearch(right, tag);
            String what = "tag " + tag;
            CHECKS.dueFault(what + " alone", head(2, tag), which < 0 ? ShippedClass.TAG : SHORT, which < 0 ? 10 : 11);
            CHECKS.dueFault(what + " behind a TEXT", head(3, 1, 0, 0, tag), which < 0 ? ShippedClass.TAG : SHORT,
                    which < 0 ? 13 : 14);
            if (which >= 0) {
                int[] almost = new int[widths[which]];
                almost[0] = tag;
                CHECKS.dueFault(what + " and almost its number", head(2, almost), SHORT, 11);
            }
        }
    }

    private static void textBytes() {
        CHECKS.sentence("that many bytes 1 .. 127 (TEXT at one that is not)");
        for (int letter = 0; letter < 256; letter++) {
            for (int at = 0; at < 3; at++) {
                ClassMaker maker = new ClassMaker();
                int[] row = {1, 0, 3, 'a', 'a', 'a'};
                row[3 + at] = letter;
                int text = maker.constant(1, row);
                byte[] bytes = maker.make();
                CHECKS.dueFaultIf(letter < 1 || letter > 127, "letter " + letter + " at " + at, bytes,
                        ShippedClass.TEXT, maker.placeOf(text) + 3 + at);
            }
        }
        CHECKS.dueFault("the first of two", head(2, 1, 0, 3, 5, 0, 128), ShippedClass.TEXT, 14);
        CHECKS.dueFault("SHORT, if not all are there", head(2, 1, 0, 4, 5, 0, 128), SHORT, 13);
        CHECKS.dueFault("a 0 behind it is no more of it", head(3, 1, 0, 1, 5, 0), ShippedClass.TAG, 14);
    }

    private static void textLengths() {
        CHECKS.sentence("1 TEXT: u2 length, that many bytes");
        for (int length : new int[] {0, 1, 2, 127, 128, 254, 255, 256, 257, 500}) {
            ClassMaker maker = new ClassMaker();
            int text = maker.text("x".repeat(length));
            byte[] bytes = maker.make();
            CHECKS.dueNone("a TEXT of " + length, bytes);
            int from = maker.placeOf(text) + 3;
            CHECKS.dueFaultIf(length > 0, "a TEXT of " + length + " of which one is missing",
                    length == 0 ? bytes : Arrays.copyOf(bytes, from + length - 1), SHORT, from);
            CHECKS.dueFault("a TEXT of " + length + " and no more", Arrays.copyOf(bytes, from + length), SHORT,
                    from + length);
            CHECKS.dueFault("a TEXT of more than there are", withTwo(bytes, from - 2, 65535), SHORT, from);
        }
    }

    private static void longsAndTheNext() {
        CHECKS.sentence("5 LONG: u4, u4, its number and the next one (which is no CONSTANT");
        ClassMaker next = new ClassMaker();
        int wide = next.longOf(1);
        int text = next.text("x");
        CHECKS.due("the number behind it", text, wide + 2);
        next.classAt(text);
        CHECKS.dueNone("the one behind the next", next.make());
        for (int off = 0; off < 2; off++) {
            ClassMaker maker = new ClassMaker();
            int from = maker.longOf(1);
            maker.text("x");
            int user = maker.classAt(from + off);
            byte[] bytes = maker.make();
            CHECKS.dueFault("a CLASS of it " + off, bytes, REFERENCE, maker.placeOf(user));
            ClassMaker name = new ClassMaker();
            name.attributes.add(ClassMaker.attribute(name.longOf(1) + off));
            CHECKS.dueFault("an ATTRIBUTE of it " + off, name.make(), REFERENCE, name.attributesAt + 2);
        }
        // The first CONSTANT of all is a LONG: 1 and 2.
        byte[] first = head(5, 5, 0, 0, 0, 0, 0, 0, 0, 0, 1, 0, 1, 'A', 7, 0, 3, 0, 0, 0, 4, 0, 4, 0, 0, 0, 0, 0, 0, 0, 0);
        CHECKS.dueNone("a LONG as the first", first);
        CHECKS.dueFault("its second number as THIS", withTwo(first, 28, 2), REFERENCE, 28);
    }

    private static void longsAtTheEnd() {
        CHECKS.sentence("LONG: ... its number and the next one (which ... may be n)");
        for (int less = 0; less < 2; less++) {
            ClassMaker maker = new ClassMaker();
            int wide = maker.longOf(1);
            maker.numbers = wide + 2 - less;
            ShippedClass x = Checks.fed(maker.make());
            CHECKS.dueFault("n is its number and " + (2 - less), x, 0, ShippedClass.NONE);
            CHECKS.due("n less 1", x.count(0), wide + 1 - less);
        }
        ClassMaker more = new ClassMaker();
        more.numbers = more.longOf(1) + 3;
        byte[] bytes = more.make();
        CHECKS.dueFault("n is its number and 3", bytes, ShippedClass.TAG, more.thisAt - 2);
        ClassMaker named = new ClassMaker();
        named.numbers = named.longOf(1) + 1;
        named.attributes.add(ClassMaker.attribute(named.numbers));
        CHECKS.dueFault("n itself is no CONSTANT", named.make(), REFERENCE, named.attributesAt + 2);
    }

    private static void howManyInterfaces() {
        CHECKS.sentence("u2 how many, as many u2 INTERFACES");
        for (int many : new int[] {0, 1, 2, 200}) {
            ClassMaker maker = new ClassMaker();
            for (int i = 0; i < many; i++) {
                maker.implementing(maker.self);
            }
            byte[] bytes = maker.make();
            ShippedClass x = Checks.fed(bytes);
            CHECKS.dueFault("INTERFACES " + many, x, 0, ShippedClass.NONE);
            CHECKS.due("how many", x.count(1), many);
            int at = maker.interfacesAt - 2;
            // Six bytes are behind them: three numbers more can be taken for INTERFACES, no fourth.
            CHECKS.dueFault("one more is told", withTwo(bytes, at, many + 1), SHORT, bytes.length);
            CHECKS.dueFault("four more are told", withTwo(bytes, at, many + 4), SHORT, bytes.length);
            CHECKS.dueFault("the most is told", withTwo(bytes, at, 65535), SHORT, bytes.length);
            CHECKS.dueFault("the most, and half a number", Arrays.copyOf(withTwo(bytes, at, 65535), bytes.length - 1),
                    SHORT, bytes.length - 2);
        }
    }

    private static void howManyMembers() {
        CHECKS.sentence("u2 how many FIELDS, then METHODS, u2 how many: each MEMBER u2 flags (its PLACE)");
        for (int isMethod = 0; isMethod < 2; isMethod++) {
            for (int many = 0; many <= 3; many++) {
                ClassMaker maker = new ClassMaker();
                for (int i = 0; i < many; i++) {
                    maker.member(isMethod == 1 ? maker.methods : maker.fields, 0x400, maker.text("m" + i),
                            maker.text(isMethod == 1 ? "()V" : "I"));
                }
                byte[] bytes = maker.make();
                ShippedClass x = Checks.fed(bytes);
                CHECKS.dueFault("MEMBERS " + many, x, 0, ShippedClass.NONE);
                CHECKS.due("FIELDS", x.count(2), isMethod == 0 ? many : 0);
                CHECKS.due("METHODS", x.count(3), isMethod == 1 ? many : 0);
                int at = isMethod == 1 ? maker.methodsAt : maker.fieldsAt;
                CHECKS.dueFault("one more is told", withTwo(bytes, at, many + 1), SHORT, bytes.length);
                CHECKS.dueFault("the most is told", withTwo(bytes, at, 65535), SHORT, bytes.length);
            }
        }
    }

    private static void howManyAttributes() {
        CHECKS.sentence("u2 how many ATTRIBUTES; those of the class, u2 how many");
        for (int many = 0; many <= 2; many++) {
            ClassMaker maker = new ClassMaker();
            ClassMaker.Member field = maker.field(0, "f", "I");
            ClassMaker.Member m = maker.method(0x400, "m", "()V");
            for (int i = 0; i < many; i++) {
                maker.attributes.add(ClassMaker.attribute(1, 5));
                field.attributes.add(ClassMaker.attribute(1));
                m.attributes.add(ClassMaker.attribute(1, 1, 2, 3));
            }
            byte[] bytes = maker.make();
            CHECKS.dueNone("ATTRIBUTES " + many, bytes);
            int at = maker.attributesAt;
            CHECKS.dueFault("one more of the class", withTwo(bytes, at, many + 1), SHORT, bytes.length);
            CHECKS.dueFault("the most of the class", withTwo(bytes, at, 65535), SHORT, bytes.length);
            // What is behind is read as a name: how many METHODS, 1, which is a TEXT; then as a length, which is large.
            CHECKS.dueFault("one more of the FIELD", withTwo(bytes, field.at + 6, many + 1), SHORT, maker.methodsAt + 6);
            if (many > 0) {
                CHECKS.dueFault("one less of the class", withTwo(bytes, at, many - 1), ShippedClass.MORE, bytes.length - 7);
            }
        }
    }

    /** Puts an ATTRIBUTE into a FIELD, a METHOD, the class or a CODE, and tells its PLACE. */
    private static int attributeIn(ClassMaker maker, int where, byte[] row) {
        ClassMaker.Member field = maker.field(0, "f", "I");
        ClassMaker.Member m = maker.code("()V", 0, 0, 177);
        if (where == 0) {
            field.attributes.add(row);
        } else if (where == 1) {
            m.attributes.add(row);
        } else if (where == 2) {
            maker.attributes.add(row);
        } else {
            m.code.attributes.add(row);
        }
        maker.make();
        int[] places = {field.at + 8, maker.attributesAt - row.length, maker.attributesAt + 2, m.codeAt + 1 + 4};
        return places[where];
    }

    private static void attributeNames() {
        CHECKS.sentence("An ATTRIBUTE: u2 name (its PLACE; REFERENCE, if that is no TEXT)");
        for (int where = 0; where < 4; where++) {
            // 5 INT, 6 and 7 LONG, 8 STRING, 9 .. 11 PAIR of TEXTS, 12 FIELD, 13 TEXT; 14 .. 18 of the MEMBERS; 19 is n.
            for (int name : new int[] {0, 1, 2, 3, 4, 5, 6, 7, 8, 9, 10, 11, 12, 13, 18, 19, 20, 199, 200, 255, 256, 257, 65535}) {
                ClassMaker maker = new ClassMaker();
                maker.intOf(1);
                maker.longOf(1);
                maker.stringAt(1);
                maker.ownField("f", "I");
                maker.text("last");
                int at = attributeIn(maker, where, ClassMaker.attribute(name, 1));
                boolean isText = name == 1 || name == 3 || name == 9 || name == 10 || name == 13 || name == 18 && where != 1;
                if (where == 1 && name == 18) {
                    CHECKS.dueFault("a second Code", maker.make(), ShippedClass.TWICE, at);
                } else {
                    CHECKS.dueFaultIf(!isText, "name " + name + " in " + where, maker.make(), REFERENCE, at);
                }
            }
        }
        ClassMaker cut = new ClassMaker();
        int at = attributeIn(cut, 2, ClassMaker.attribute(0, 1));
        CHECKS.dueFault("REFERENCE before SHORT of the length", Arrays.copyOf(cut.make(), at + 2), REFERENCE, at);
        CHECKS.dueFault("SHORT of the name", Arrays.copyOf(cut.make(), at + 1), SHORT, at);
    }

    private static void attributeLengths() {
        CHECKS.sentence("u4 length (without a sign; SHORT, if they are not all there), bytes");
        for (int where = 0; where < 3; where++) {
            ClassMaker maker = new ClassMaker();
            int at = attributeIn(maker, where, ClassMaker.attribute(1, 1, 2, 3));
            byte[] bytes = maker.make();
            CHECKS.dueNone("the right length", bytes);
            int rest = bytes.length - at - 6;
            for (int length : new int[] {rest + 1, rest + 2, 600, 65535, 65536, 0x1000003, Integer.MAX_VALUE,
                    Integer.MIN_VALUE, Integer.MIN_VALUE + 3, -1, -2, -6, -at - 6, 3 - 256}) {
                CHECKS.dueFault("length " + length + " in " + where, withFour(bytes, at + 2, length), SHORT, at + 6);
            }
        }
        for (int length : new int[] {0, 1, 2, 255, 256, 257, 400}) {
            ClassMaker maker = new ClassMaker();
            int at = attributeIn(maker, 2, ClassMaker.attribute(1, new int[length]));
            byte[] bytes = maker.make();
            CHECKS.dueNone("bytes " + length, bytes);
            CHECKS.dueFault("one more than " + length, withFour(bytes, at + 2, length + 1), SHORT, at + 6);
            if (length > 0) {
                CHECKS.dueFault("one less than " + length, withFour(bytes, at + 2, length - 1), ShippedClass.MORE,
                        bytes.length - 1);
            }
        }
    }

    private static void secondCode() {
        CHECKS.sentence("One named Code of a METHOD is its CODE (TWICE at a second one)");
        ClassMaker maker = new ClassMaker();
        ClassMaker.Member m = maker.code("()V", 0, 0, 177);
        maker.code("(I)V", 0, 1, 177);
        CHECKS.dueNone("each METHOD has one", maker.make());
        m.attributes.add(ClassMaker.attribute(m.code.name));
        m.attributes.add(ClassMaker.attribute(m.code.name));
        byte[] bytes = maker.make();
        int second = m.codeAt + 1 + 4;
        CHECKS.dueFault("the second, not the third", bytes, ShippedClass.TWICE, second);
        CHECKS.dueFault("TWICE before what is wrong behind it", withTwo(bytes, second + 6, 0), ShippedClass.TWICE, second);
        CHECKS.dueFault("SHORT before TWICE", Arrays.copyOf(withFour(bytes, second + 2, 600), bytes.length),
                SHORT, second + 6);
        ClassMaker other = new ClassMaker();
        ClassMaker.Member n = other.code("()V", 0, 0, 177);
        n.attributes.add(ClassMaker.attribute(other.text("Code"), 1));
        CHECKS.dueFault("another TEXT of the same characters", other.make(), ShippedClass.TWICE, n.codeAt + 1 + 4);
        ClassMaker wrong = new ClassMaker();
        ClassMaker.Member w = wrong.code("()V", 0, 0);
        w.attributes.add(ClassMaker.attribute(w.code.name));
        CHECKS.dueFault("what is wrong in the first comes first", wrong.make(), ATTRIBUTE, w.attributeAt);
    }

    private static void onlyOfAMethod() {
        CHECKS.sentence("One named Code of a METHOD is its CODE");
        for (String name : new String[] {"Code", "Cod", "Codes", "code", "CODE", "Dode", "Codd", " Code", ""}) {
            ClassMaker maker = new ClassMaker();
            ClassMaker.Member m = maker.method(8, "m", "()V");
            m.attributes.add(ClassMaker.attribute(maker.text(name), 0, 0, 0, 0, 0, 0, 0, 1, 177, 0, 0, 0, 0));
            CHECKS.dueFaultIf(!name.equals("Code"), "named " + name, maker.make(), ShippedClass.CODE, m.at);
        }
        for (int where = 0; where < 4; where += where == 0 ? 2 : 1) {
            ClassMaker maker = new ClassMaker();
            attributeIn(maker, where, ClassMaker.attribute(maker.text("Code"), 1));
            CHECKS.dueNone("one named Code in " + where, maker.make());
        }
    }

    private static int[] wholeCode() {
        return new int[] {0, 1, 0, 0, 0, 0, 0, 3, 167, 0, 0, 0, 1, 0, 0, 0, 3, 0, 0, 0, 0,
            0, 2, 0, 1, 0, 0, 0, 0, 0, 3, 0, 0, 0, 2, 9, 9};
    }

    private static void dueCode(String what, int fault, int... row) {
        ClassMaker maker = new ClassMaker();
        ClassMaker.Member m = maker.method(8, "m", "()V");
        m.attributes.add(ClassMaker.attribute(maker.text("Code"), row));
        byte[] bytes = maker.make();
        // What is right has a HANDLER whose stack differs, at its first INSTRUCTION.
        CHECKS.dueFault(what, bytes, fault, fault == ATTRIBUTE ? m.at + 8 : m.at + 8 + 14);
    }

    private static void codeWithin() {
        CHECKS.sentence("ATTRIBUTE, at the CODE's PLACE, if something of it is not within its bytes");
        int[] whole = wholeCode();
        for (int size = 0; size < whole.length; size++) {
            dueCode("the first " + size + " bytes", ATTRIBUTE, Arrays.copyOf(whole, size));
        }
        dueCode("all bytes", ShippedClass.FRAME, whole);
        int[] numbers = {7, 22, 34};
        for (int at : numbers) {
            int[] more = whole.clone();
            more[at]++;
            dueCode("one more at " + at, ATTRIBUTE, more);
        }
        // The bytes behind are there, but they are not its own.
        ClassMaker maker = new ClassMaker();
        ClassMaker.Member m = maker.code("()V", 0, 0, 177);
        m.attributes.add(ClassMaker.attribute(1, new int[40]));
        byte[] bytes = maker.make();
        for (int length = 1; length < 13; length++) {
            CHECKS.dueFault("a CODE cut to " + length, withFour(bytes, m.attributeAt + 2, length), ATTRIBUTE, m.attributeAt);
        }
        CHECKS.dueNone("a CODE of 13", withFour(bytes, m.attributeAt + 2, 13));
    }

    private static void codeOfLargeNumbers() {
        CHECKS.sentence("if something of it is not within its bytes (numbers that wrap around)");
        int[][] places = {{4, 4}, {11, 2}, {21, 2}, {25, 4}, {31, 4}};
        for (int[] place : places) {
            for (int value : new int[] {-1, -2, -13, -27, 0x7FFFFFFF, 0x80000000, 0x80000001, 0xFFFF, 0x2000, 0x2001,
                    0x4000, 0x8000, 0x8001, 0x1FFFFFFF, 0x20000001}) {
                int[] row = wholeCode();
                for (int i = 0; i < place[1]; i++) {
                    row[place[0] + i] = value >>> 8 * (place[1] - 1 - i) & 255;
                }
                if (place[1] == 4 || (value & 0xFFFF) > 2) {
                    dueCode("value " + value + " at " + place[0], ATTRIBUTE, row);
                }
            }
        }
    }

    /** Each would be all there, and right or wrong in another way, if its large number were taken with a sign. */
    private static void codeThatWrapsAround() {
        CHECKS.sentence("if something of it is not within its bytes (a length without a sign)");
        dueCode("the instructions end at STACK", ATTRIBUTE, 0, 0, 0, 1, 255, 255, 255, 248, 0, 0, 0, 0);
        dueCode("the instructions end at their length", ATTRIBUTE, 0, 0, 0, 0, 255, 255, 255, 252, 0, 0, 0, 0);
        dueCode("the instructions end before they begin", ATTRIBUTE, 0, 0, 0, 0, 255, 255, 255, 255, 0, 0, 0, 0);
        dueCode("an ATTRIBUTE ends at its name", ATTRIBUTE, 0, 0, 0, 0, 0, 0, 0, 1, 177, 0, 0, 0, 2, 0, 1, 255, 255, 255, 250);
        dueCode("an ATTRIBUTE ends at its length", ATTRIBUTE, 0, 0, 0, 0, 0, 0, 0, 1, 177, 0, 0, 0, 1, 0, 1, 255, 255, 255, 252);
    }

    private static void codeLeft() {
        CHECKS.sentence("ATTRIBUTE, at the CODE's PLACE, if ... a byte of them is left");
        for (int left = 0; left <= 300; left = left < 4 ? left + 1 : left * 2) {
            ClassMaker maker = new ClassMaker();
            ClassMaker.Member m = maker.code("()V", 0, 0, 177);
            m.code.left = new byte[left];
            byte[] bytes = maker.make();
            CHECKS.dueFaultIf(left > 0, left + " left", bytes, ATTRIBUTE, m.attributeAt);
            ClassMaker named = new ClassMaker();
            ClassMaker.Member n = named.code("()V", 0, 0, 177);
            n.code.attributes.add(ClassMaker.attribute(1, 4));
            n.code.left = new byte[left];
            byte[] row = named.make();
            CHECKS.dueFaultIf(left > 0, left + " left behind its ATTRIBUTES", row, ATTRIBUTE, n.attributeAt);
        }
        int[] whole = wholeCode();
        for (int at : new int[] {34, 22, 12}) {
            int[] less = whole.clone();
            less[at]--;
            dueCode("one less at " + at, ATTRIBUTE, less);
        }
    }

    private static void codeOfNoInstruction() {
        CHECKS.sentence("ATTRIBUTE, at the CODE's PLACE, if ... there is no instruction");
        for (int many = 0; many <= 2; many++) {
            int[] row = new int[many];
            if (many > 0) {
                row[many - 1] = 177;
            }
            ClassMaker maker = new ClassMaker();
            ClassMaker.Member m = maker.code("()V", 0, 0, row);
            byte[] bytes = maker.make();
            CHECKS.dueFaultIf(many == 0, many + " of them", bytes, ATTRIBUTE, m.attributeAt);
        }
        ClassMaker bare = new ClassMaker();
        ClassMaker.Member m = bare.code("()V", 0, 0);
        m.flags = 0x400;
        bare.parent = 0;
        CHECKS.dueFault("before LINKING", bare.make(), ATTRIBUTE, m.attributeAt);
    }

    private static void namesInCode() {
        CHECKS.sentence("u2 how many ATTRIBUTES of the CODE (names as above)");
        for (int many = 0; many <= 3; many++) {
            for (int wrong = 0; wrong <= many; wrong++) {
                ClassMaker maker = new ClassMaker();
                ClassMaker.Member m = maker.code("()V", 0, 0, 177);
                for (int i = 0; i < many; i++) {
                    m.code.attributes.add(ClassMaker.attribute(i == wrong ? 0 : 1, 7));
                }
                byte[] bytes = maker.make();
                CHECKS.dueFaultIf(wrong < many, "name " + wrong + " of " + many, bytes, REFERENCE,
                        m.codeAt + 1 + 4 + 7 * wrong);
            }
        }
        ClassMaker maker = new ClassMaker();
        ClassMaker.Member m = maker.code("()V", 0, 0, 177);
        m.code.attributes.add(ClassMaker.bytes(0));
        CHECKS.dueFault("half a name", maker.make(), ATTRIBUTE, m.attributeAt);
        m.code.attributes.set(0, ClassMaker.bytes(0, 0));
        CHECKS.dueFault("a wrong name alone", maker.make(), REFERENCE, m.codeAt + 1 + 4);
        m.code.attributes.set(0, ClassMaker.bytes(0, 1, 0, 0, 0));
        CHECKS.dueFault("a right name and almost a length", maker.make(), ATTRIBUTE, m.attributeAt);
        m.code.attributes.set(0, ClassMaker.bytes(0, 1, 0, 0, 0, 0));
        CHECKS.dueNone("a right name and a length of 0", maker.make());
        m.code.attributes.set(0, ClassMaker.bytes(0, 1, 0, 0, 0, 1));
        CHECKS.dueFault("a right name and a length of 1", maker.make(), ATTRIBUTE, m.attributeAt);
    }

    private static void more() {
        CHECKS.sentence("Behind all MORE, at the first byte that is left");
        byte[] bytes = withAll().make();
        for (int left = 0; bytes.length + left <= 600; left = left < 3 ? left + 1 : left * 2) {
            byte[] row = Arrays.copyOf(bytes, bytes.length + left);
            CHECKS.dueFaultIf(left > 0, left + " left", row, ShippedClass.MORE, bytes.length);
        }
        CHECKS.dueFault("all that can be left", Arrays.copyOf(bytes, 600), ShippedClass.MORE, bytes.length);
        ClassMaker wrong = new ClassMaker();
        wrong.parent = 0;
        wrong.classOf("");
        byte[] row = wrong.make();
        CHECKS.dueFault("before all LINKING", Arrays.copyOf(row, row.length + 1), ShippedClass.MORE, row.length);
    }
}
