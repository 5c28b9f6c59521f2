/** Each sentence of III. POLICY that names a bound: at it, one below and one above it. */
public final class PolicyBoundsTest {
    private static final Checks CHECKS = new Checks();
    private static final int LIMIT = ShippedClass.LIMIT;
    private static final int FORBIDDEN = ShippedClass.FORBIDDEN;

    private PolicyBoundsTest() {
    }

    public static void main(String[] args) {
        manyMethods();
        protectedTexts();
        textsEnd();
        eachOfSix();
        ownText();
        allowedTexts();
        usesByNumber();
        nativeFlag();
        finalizer();
        instructionBytes();
        stackAndLocals();
        withoutCode();
        fromNowOn();
        linkingThenPolicyThenVerifying();
        CHECKS.end();
    }

    private static void addRule(ShippedClass x, boolean isAllowed, String text) {
        Checks.feed(x, ClassMaker.letters(text));
        x.rule(isAllowed, text.length());
    }

    private static ClassMaker withMethods(int many) {
        ClassMaker maker = new ClassMaker();
        maker.field(0, "f", "I");
        maker.field(0, "g", "I");
        int type = maker.text("()V");
        for (int i = 0; i < many; i++) {
            maker.member(maker.methods, ClassMaker.ABSTRACT, maker.text("m" + (char) ('a' + i)), type);
        }
        return maker;
    }

    private static void manyMethods() {
        CHECKS.sentence("More METHODS than may be: LIMIT at their number's PLACE");
        for (int most : new int[] {0, 1, 2, 15, 16, 17, 25}) {
            for (int many = Math.max(0, most - 1); many <= most + 1; many++) {
                ClassMaker maker = withMethods(many);
                ShippedClass x = Checks.fed(maker.make());
                x.limit(0, most);
                CHECKS.dueFaultIf(many > most, many + " of " + most, x, LIMIT, maker.methodsAt);
            }
        }
        ShippedClass x = Checks.fed(withMethods(26).make());
        x.limit(0, 600);
        CHECKS.dueFault("at most 600", x, 0, ShippedClass.NONE);
        x.limit(0, 0);
        x.limit(0, 26);
        CHECKS.dueFault("at most as many as there are", x, 0, ShippedClass.NONE);
    }

    private static void dueProtected(boolean isWrong, String name, String text) {
        ClassMaker maker = new ClassMaker();
        maker.self = maker.classOf(name);
        maker.parent = maker.self;
        ShippedClass x = new ShippedClass();
        addRule(x, false, text);
        Checks.feed(x, maker.make());
        CHECKS.dueFaultIf(isWrong, "THIS " + name + ", PROTECTED " + text, x, ShippedClass.PROTECTED, maker.thisAt);
    }

    private static void protectedTexts() {
        CHECKS.sentence("THIS begins with a PROTECTED text: PROTECTED at its PLACE");
        String name = "abcdefghijklmnopqrstuvwxyzABCDEFGHIJKLMNOPQRSTUVWXYZ".substring(0, 41);
        for (int length = 1; length <= 40; length++) {
            String text = name.substring(0, length);
            dueProtected(true, name, text);
            dueProtected(true, text, text);
            dueProtected(true, text + "x", text);
            dueProtected(false, "x" + text, text);
            dueProtected(false, "x" + text.substring(1), text);
            dueProtected(false, text.substring(0, length - 1) + "!", text);
            if (length > 1) {
                dueProtected(false, text.substring(0, length - 1), text);
                dueProtected(false, text.substring(1), text);
            }
        }
        dueProtected(false, "java", "java/");
        dueProtected(true, "java/A", "java/");
        dueProtected(false, "javax/A", "java/");
        ClassMaker maker = new ClassMaker();
        maker.implementing(maker.parent);
        maker.classOf("Use");
        ShippedClass x = new ShippedClass();
        addRule(x, false, "U");
        Checks.feed(x, maker.make());
        CHECKS.dueFault("SUPER, INTERFACES and others may", x, 0, ShippedClass.NONE);
    }

    private static void textsEnd() {
        CHECKS.sentence("begins with a PROTECTED text ... begins with an ALLOWED text (what is behind a TEXT is no more of it)");
        ClassMaker own = new ClassMaker();
        own.self = own.classAt(6);
        own.text("Ow");
        own.flags = 'n' << 8 | 's';
        ClassMaker used = new ClassMaker();
        int owner = used.classAt(10);
        int pair = used.pairOf("f", "I");
        int field = used.fieldAt(owner, pair);
        CHECKS.due("the last TEXT", used.text("Ow"), 10);
        used.flags = own.flags;
        for (String text : new String[] {"O", "Ow", "Own", "Owns"}) {
            ShippedClass x = new ShippedClass();
            addRule(x, false, text);
            Checks.feed(x, own.make());
            CHECKS.dueFaultIf(text.length() <= 2, "PROTECTED " + text, x, ShippedClass.PROTECTED, own.thisAt);
            ShippedClass y = new ShippedClass();
            addRule(y, true, text);
            Checks.feed(y, used.make());
            CHECKS.dueFaultIf(text.length() > 2, "ALLOWED " + text, y, FORBIDDEN, used.placeOf(field));
        }
        ClassMaker same = new ClassMaker();
        same.flags = 'n' << 8 | 's';
        int another = same.classAt(10);
        int wrong = same.fieldAt(another, same.pairOf("f", "I"));
        CHECKS.due("the last TEXT again", same.text("Ow"), 10);
        byte[] bytes = same.make();
        CHECKS.dueFault("Ow and n is not Own", bytes, FORBIDDEN, same.placeOf(wrong));
    }

    private static void eachOfSix() {
        CHECKS.sentence("begins with a PROTECTED text ... begins with an ALLOWED text (each of six)");
        for (int many = 0; many <= 6; many++) {
            for (int k = 0; k < 6; k++) {
                ClassMaker maker = new ClassMaker();
                maker.self = maker.classOf("p" + k);
                int use = maker.fieldAt(maker.classOf("a" + k), maker.pairOf("f", "I"));
                byte[] bytes = maker.make();
                ShippedClass x = new ShippedClass();
                ShippedClass y = new ShippedClass();
                for (int i = 0; i < many; i++) {
                    addRule(x, false, "p" + i);
                    addRule(y, true, "a" + i);
                }
                addRule(x, true, "a");
                addRule(y, false, "a");
                Checks.feed(x, bytes);
                Checks.feed(y, bytes);
                CHECKS.dueFaultIf(k < many, "PROTECTED " + k + " of " + many, x, ShippedClass.PROTECTED, maker.thisAt);
                CHECKS.dueFaultIf(k >= many, "ALLOWED " + k + " of " + many, y, FORBIDDEN, maker.placeOf(use));
            }
        }
    }

    private static void ownText() {
        CHECKS.sentence("their CLASS is THIS one's TEXT");
        for (int isMethod = 0; isMethod < 2; isMethod++) {
            for (String name : new String[] {"Own", "Ow", "Owns", "own", "Owm", "O", "Own/A", "a/Own", "Up"}) {
                ClassMaker maker = new ClassMaker();
                int owner = maker.classOf(name);
                int use = isMethod == 1 ? maker.methodAt(owner, maker.pairOf("m", "()V"))
                        : maker.fieldAt(owner, maker.pairOf("f", "I"));
                byte[] bytes = maker.make();
                CHECKS.dueFaultIf(!name.equals("Own"), "another CLASS of " + name, bytes, FORBIDDEN, maker.placeOf(use));
            }
            ClassMaker same = new ClassMaker();
            int owner = same.classAt(1);
            if (isMethod == 1) {
                same.methodAt(owner, same.pairOf("m", "()V"));
            } else {
                same.fieldAt(owner, same.pairOf("f", "I"));
            }
            CHECKS.dueNone("another CLASS of the same TEXT", same.make());
        }
    }

    private static void dueAllowed(boolean isRight, String name, String text) {
        for (int isMethod = 0; isMethod < 2; isMethod++) {
            ClassMaker maker = new ClassMaker();
            int owner = maker.classOf(name);
            int use = isMethod == 1 ? maker.methodAt(owner, maker.pairOf("m", "()V"))
                    : maker.fieldAt(owner, maker.pairOf("f", "I"));
            ShippedClass x = new ShippedClass();
            addRule(x, true, text);
            Checks.feed(x, maker.make());
            CHECKS.dueFaultIf(!isRight, "of " + name + ", ALLOWED " + text, x, FORBIDDEN, maker.placeOf(use));
        }
    }

    private static void allowedTexts() {
        CHECKS.sentence("or begins with an ALLOWED text (FORBIDDEN)");
        String name = "abcdefghijklmnopqrstuvwxyzABCDEFGHIJKLMNOPQRSTUVWXYZ".substring(0, 41);
        for (int length = 1; length <= 40; length++) {
            String text = name.substring(0, length);
            dueAllowed(true, name, text);
            dueAllowed(true, text, text);
            dueAllowed(false, "x" + text, text);
            dueAllowed(false, text.substring(0, length - 1) + "!", text);
            if (length > 1) {
                dueAllowed(false, text.substring(0, length - 1), text);
            }
        }
        dueAllowed(false, "java", "java/");
        dueAllowed(true, "java/A", "java/");
    }

    private static void usesByNumber() {
        CHECKS.sentence("FIELDS and METHODS of the CONSTANTS by number ... (CONSTANTS ... at their PLACES)");
        ClassMaker maker = new ClassMaker();
        int good = maker.classOf("good/A");
        int bad = maker.classOf("bad/A");
        int field = maker.pairOf("f", "I");
        int method = maker.pairOf("m", "()V");
        maker.fieldAt(maker.self, field);
        maker.methodAt(good, method);
        int first = maker.methodAt(bad, method);
        maker.fieldAt(bad, field);
        int last = maker.methodAt(maker.parent, method);
        ShippedClass x = new ShippedClass();
        addRule(x, true, "good/");
        Checks.feed(x, maker.make());
        CHECKS.dueFault("the first of three", x, FORBIDDEN, maker.placeOf(first));
        x.cut(0);
        addRule(x, true, "bad/A");
        Checks.feed(x, maker.make());
        CHECKS.dueFault("the last CONSTANT", x, FORBIDDEN, maker.placeOf(last));
        x.cut(0);
        addRule(x, true, "Up");
        Checks.feed(x, maker.make());
        CHECKS.dueFault("none", x, 0, ShippedClass.NONE);
    }

    private static void nativeFlag() {
        CHECKS.sentence("METHODS: flag 0x100: NATIVE");
        for (int flags : new int[] {0x100, 0x108, 0x500, 0xFFFF, 0x400, 0xFEFF, 0x600}) {
            ClassMaker maker = new ClassMaker();
            maker.method(ClassMaker.ABSTRACT, "a", "()V");
            ClassMaker.Member m = maker.method(flags, "m", "()V");
            maker.field(0x100, "f", "I");
            CHECKS.dueFaultIf((flags & 0x100) != 0, "flags " + flags, maker.make(), ShippedClass.NATIVE, m.at);
        }
        ClassMaker both = new ClassMaker();
        ClassMaker.Member m = both.method(0x100, "finalize", "()V");
        CHECKS.dueFault("NATIVE before FINALIZER", both.make(), ShippedClass.NATIVE, m.at);
    }

    private static void finalizer() {
        CHECKS.sentence("finalize of ()V: FINALIZER");
        String[][] rows = {{"finalize", "()V"}, {"finaliz", "()V"}, {"finalizes", "()V"}, {"Finalize", "()V"},
            {"finalise", "()V"}, {"afinalize", "()V"}, {"finalize", "()I"}, {"finalize", "(I)V"}, {"finalize", "(V)V"},
            {"finalize", "()LV;"}, {"m", "()V"}};
        for (int flags : new int[] {0, 8, 0x400, 0x1}) {
            for (String[] row : rows) {
                ClassMaker maker = new ClassMaker();
                ClassMaker.Member m = maker.method(flags, row[0], row[1]);
                if (flags != 0x400) {
                    maker.code(m, 0, 2, 167, 0, 0);
                }
                boolean isIt = row == rows[0];
                boolean isNone = row[1].equals("(V)V");
                CHECKS.dueFaultIf(isIt || isNone, row[0] + row[1] + " with " + flags, maker.make(),
                        isIt ? ShippedClass.FINALIZER : ShippedClass.DESCRIPTOR, m.at);
            }
        }
        ClassMaker both = new ClassMaker();
        ClassMaker.Member m = both.method(0, "finalize", "()V", 65, 65, 177);
        CHECKS.dueFault("FINALIZER before LIMIT", both.make(), ShippedClass.FINALIZER, m.at);
    }

    private static ClassMaker withBytes(int many) {
        int[] row = new int[many];
        row[many - 1] = 177;
        ClassMaker maker = new ClassMaker();
        maker.code("()V", 0, 0, row);
        return maker;
    }

    private static void instructionBytes() {
        CHECKS.sentence("more bytes of instructions than may be: LIMIT");
        for (int many : new int[] {199, 200, 201, 255, 256, 257, 400}) {
            ClassMaker maker = withBytes(many);
            CHECKS.dueFaultIf(many > 200, many + " of 200", maker.make(), LIMIT, maker.methods.get(0).at);
        }
        for (int many : new int[] {1, 2, 3, 199, 201, 255, 256, 257, 400}) {
            for (int most : new int[] {0, many - 1, many, many + 1, 600}) {
                ClassMaker maker = withBytes(many);
                ShippedClass x = Checks.fed(maker.make());
                x.limit(1, most);
                CHECKS.dueFaultIf(many > most, many + " of " + most, x, LIMIT, maker.methods.get(0).at);
            }
        }
        ClassMaker two = new ClassMaker();
        two.code("()V", 0, 0, 0, 0, 177);
        ClassMaker.Member m = two.code("(I)V", 0, 1, 0, 0, 0, 177);
        ShippedClass x = Checks.fed(two.make());
        x.limit(1, 4);
        CHECKS.dueFault("of each, not of all", x, 0, ShippedClass.NONE);
        x.limit(1, 3);
        CHECKS.dueFault("of the second", x, LIMIT, m.at);
    }

    private static void stackAndLocals() {
        CHECKS.sentence("STACK or LOCALS above 64: LIMIT");
        for (int size : new int[] {0, 1, 63, 64, 65, 66, 127, 128, 255, 256, 257, 320, 32768, 65535}) {
            ClassMaker stack = new ClassMaker();
            ClassMaker.Member m = stack.code("()V", size, 64, 177);
            CHECKS.dueFaultIf(size > 64, "STACK " + size, stack.make(), LIMIT, m.at);
            ClassMaker locals = new ClassMaker();
            ClassMaker.Member n = locals.code("()V", 64, size, 177);
            CHECKS.dueFaultIf(size > 64, "LOCALS " + size, locals.make(), LIMIT, n.at);
        }
    }

    private static void withoutCode() {
        CHECKS.sentence("METHODS: ... more bytes of instructions than may be (of one that has none)");
        ClassMaker maker = new ClassMaker();
        maker.method(ClassMaker.ABSTRACT, "m", "()V");
        ShippedClass x = Checks.fed(maker.make());
        x.limit(1, 0);
        CHECKS.dueFault("none is not more than none", x, 0, ShippedClass.NONE);
        // Whatever numbers lie elsewhere in the file are not its STACK or LOCALS.
        ClassMaker large = new ClassMaker();
        large.version = 65;
        for (int k = 5; k < 100; k++) {
            large.text("");
        }
        large.method(ClassMaker.ABSTRACT, "m", "()V");
        CHECKS.dueNone("in a file of large numbers", large.make());
    }

    private static void fromNowOn() {
        CHECKS.sentence("from now on");
        ClassMaker maker = new ClassMaker();
        maker.code("()V", 0, 0, 177);
        byte[] bytes = maker.make();
        ShippedClass x = Checks.fed(bytes);
        CHECKS.dueFault("before", x, 0, ShippedClass.NONE);
        x.limit(1, 0);
        CHECKS.due("what was read stays", x.count(4), 1);
        CHECKS.dueFault("less bytes from now on", x, LIMIT, maker.methods.get(0).at);
        x.limit(0, 0);
        CHECKS.dueFault("less METHODS from now on", x, LIMIT, maker.methodsAt);
        x.limit(0, 1);
        x.limit(1, 1);
        CHECKS.dueFault("more from now on", x, 0, ShippedClass.NONE);
        addRule(x, false, "O");
        CHECKS.dueFault("PROTECTED from now on", x, ShippedClass.PROTECTED, maker.thisAt);
        x.cut(0);
        Checks.feed(x, bytes);
        CHECKS.dueFault("and for all that comes", x, ShippedClass.PROTECTED, maker.thisAt);
        CHECKS.due("what was read still stays", x.text(0, 0, 0), 'O');
    }

    private static void linkingThenPolicyThenVerifying() {
        CHECKS.sentence("What is wrong first, in the order of this text, is the FAULT");
        ClassMaker maker = new ClassMaker();
        int use = maker.methodAt(maker.parent, maker.pairOf("m", "()V"));
        ClassMaker.Member first = maker.code("()V", 0, 0, 255);
        ClassMaker.Member second = maker.code("(I)V", 65, 1, 177);
        ClassMaker.Member last = maker.method(0, "n", "()V");
        ShippedClass x = new ShippedClass();
        addRule(x, false, "O");
        x.limit(0, 2);
        byte[] bytes = maker.make();
        Checks.feed(x, bytes);
        CHECKS.dueFault("LINKING", x, ShippedClass.CODE, last.at);
        x.put(last.at, 4);
        CHECKS.dueFault("how many METHODS", x, LIMIT, maker.methodsAt);
        x.limit(0, 3);
        CHECKS.dueFault("THIS", x, ShippedClass.PROTECTED, maker.thisAt);
        ShippedClass y = Checks.fed(bytes);
        y.put(last.at, 4);
        CHECKS.dueFault("CONSTANTS", y, FORBIDDEN, maker.placeOf(use));
        ShippedClass z = new ShippedClass();
        addRule(z, true, "Up");
        Checks.feed(z, bytes);
        z.put(last.at, 4);
        CHECKS.dueFault("METHODS", z, LIMIT, second.at);
        z.put(second.attributeAt + 7, 64);
        CHECKS.dueFault("VERIFYING", z, ShippedClass.OPCODE, first.codeAt);
        z.put(first.codeAt, 177);
        CHECKS.dueFault("nothing", z, 0, ShippedClass.NONE);
    }
}
