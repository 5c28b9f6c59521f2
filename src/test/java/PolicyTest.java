/** Promise 7, III. POLICY, and what promises 5 and 6 do to it: LIMIT, PROTECTED, FORBIDDEN, NATIVE and FINALIZER. */
public final class PolicyTest {
    private static final Checks CHECKS = new Checks();

    private PolicyTest() {
    }

    public static void main(String[] args) {
        methodLimit();
        protectedNames();
        forbiddenUses();
        manyTexts();
        nativeMethods();
        finalizers();
        codeLimits();
        order();
        CHECKS.end();
    }

    private static ShippedClass withRules(byte[] bytes, String... rules) {
        ShippedClass x = new ShippedClass();
        for (String rule : rules) {
            Checks.feed(x, ClassMaker.letters(rule.substring(1)));
            x.rule(rule.charAt(0) == '+', rule.length() - 1);
        }
        Checks.feed(x, bytes);
        return x;
    }

    private static void methodLimit() {
        ClassMaker maker = new ClassMaker();
        maker.field(0, "f", "I");
        for (int i = 0; i < 3; i++) {
            maker.code("()V", 0, 0, 177).name = maker.text("m" + i);
        }
        ShippedClass x = Checks.fed(maker.make());
        for (int most = 0; most < 5; most++) {
            x.limit(0, most);
            CHECKS.dueFault("at most " + most, x, most < 3 ? ShippedClass.LIMIT : 0,
                    most < 3 ? maker.methodsAt : ShippedClass.NONE);
        }
    }

    private static void protectedNames() {
        ClassMaker maker = new ClassMaker();
        maker.self = maker.classOf("java/lang/Own");
        byte[] bytes = maker.make();
        int wrong = ShippedClass.PROTECTED;
        CHECKS.dueFault("none", bytes, 0, ShippedClass.NONE);
        CHECKS.dueFault("begins with it", withRules(bytes, "-java/"), wrong, maker.thisAt);
        CHECKS.dueFault("is it", withRules(bytes, "-java/lang/Own"), wrong, maker.thisAt);
        CHECKS.dueFault("is shorter", withRules(bytes, "-java/lang/Owns"), 0, ShippedClass.NONE);
        CHECKS.dueFault("has it later", withRules(bytes, "-lang/"), 0, ShippedClass.NONE);
        CHECKS.dueFault("differs", withRules(bytes, "-jave/"), 0, ShippedClass.NONE);
        CHECKS.dueFault("one of two", withRules(bytes, "-x", "-j"), wrong, maker.thisAt);
        CHECKS.dueFault("ALLOWED is the other sort", withRules(bytes, "+java/"), 0, ShippedClass.NONE);
        ClassMaker parent = new ClassMaker();
        parent.parent = parent.classOf("java/lang/Up");
        parent.implementing(parent.parent);
        CHECKS.dueFault("SUPER may", withRules(parent.make(), "-java/"), 0, ShippedClass.NONE);
    }

    private static void forbiddenUses() {
        for (int i = 0; i < 2; i++) {
            ClassMaker maker = new ClassMaker();
            int owner = maker.classOf("java/lang/Math");
            maker.ownField("f", "I");
            int pair = maker.pairOf("a", i == 0 ? "I" : "()V");
            int use = i == 0 ? maker.fieldAt(owner, pair) : maker.methodAt(owner, pair);
            maker.methodAt(maker.classAt(1), maker.pairOf("m", "()V"));
            byte[] bytes = maker.make();
            int at = maker.placeOf(use);
            int wrong = ShippedClass.FORBIDDEN;
            CHECKS.dueFault("none", bytes, wrong, at);
            CHECKS.dueFault("begins with it", withRules(bytes, "+java/"), 0, ShippedClass.NONE);
            CHECKS.dueFault("is it", withRules(bytes, "+java/lang/Math"), 0, ShippedClass.NONE);
            CHECKS.dueFault("is shorter", withRules(bytes, "+java/lang/Maths"), wrong, at);
            CHECKS.dueFault("another", withRules(bytes, "+lava/", "+ava"), wrong, at);
            CHECKS.dueFault("PROTECTED is the other sort", withRules(bytes, "-java/"), wrong, at);
        }
        ClassMaker maker = new ClassMaker();
        maker.classOf("a/Cast");
        maker.pairOf("a", "La/B;");
        maker.stringAt(1);
        CHECKS.dueNone("CLASSES, PAIRS and STRINGS alone", maker.make());
        ClassMaker first = new ClassMaker();
        int owner = first.classOf("Owner");
        int earlier = first.methodAt(owner, first.pairOf("a", "()V"));
        first.fieldAt(owner, first.pairOf("a", "I"));
        byte[] bytes = first.make();
        CHECKS.dueFault("the first by number; Owner is not Own", bytes, ShippedClass.FORBIDDEN, first.placeOf(earlier));
    }

    private static void manyTexts() {
        for (int k = 0; k < 7; k++) {
            ClassMaker maker = new ClassMaker();
            int use = maker.fieldAt(maker.classOf("abcdefg".substring(k, k + 1) + "/X"), maker.pairOf("f", "I"));
            byte[] bytes = maker.make();
            CHECKS.dueFault("text " + k, withRules(bytes, "+a/", "+b/", "+c/", "+d/", "+e/", "+f/", "-a", "-b"),
                    k < 6 ? 0 : ShippedClass.FORBIDDEN, k < 6 ? ShippedClass.NONE : maker.placeOf(use));
        }
        ClassMaker maker = new ClassMaker();
        String name = "x".repeat(39);
        maker.self = maker.classOf(name + "yz");
        byte[] bytes = maker.make();
        CHECKS.dueFault("forty letters", withRules(bytes, "-" + name + "y"), ShippedClass.PROTECTED, maker.thisAt);
        CHECKS.dueFault("the fortieth differs", withRules(bytes, "-" + name + "x"), 0, ShippedClass.NONE);
    }

    private static void nativeMethods() {
        ClassMaker maker = new ClassMaker();
        maker.code("()V", 0, 0, 177);
        ClassMaker.Member m = maker.method(ClassMaker.NATIVE | 8, "n", "()V");
        CHECKS.dueFault("flag 0x100", maker.make(), ShippedClass.NATIVE, m.at);
    }

    private static void finalizers() {
        for (int flags : new int[] {0, 8, 0x400}) {
            ClassMaker maker = new ClassMaker();
            ClassMaker.Member m = maker.method(flags, "finalize", "()V");
            if (flags != 0x400) {
                maker.code(m, 0, 1, 177);
            }
            CHECKS.dueFault("finalize with " + flags, maker.make(), ShippedClass.FINALIZER, m.at);
        }
        ClassMaker maker = new ClassMaker();
        maker.method(0x400, "finalize", "(I)V");
        maker.method(0x400, "finalize", "()I");
        maker.method(0x400, "finalizer", "()V");
        maker.method(0x400, "Finalize", "()V");
        maker.method(0x400, "finaliz", "()V");
        maker.field(0, "finalize", "I");
        maker.ownMethod("finalize", "()V");
        CHECKS.dueNone("others", maker.make());
    }

    private static void codeLimits() {
        for (int size = 64; size <= 65; size++) {
            boolean isRight = size == 64;
            ClassMaker stack = new ClassMaker();
            ClassMaker.Member m = stack.code("()V", size, 0, 177);
            byte[] one = stack.make();
            CHECKS.dueFault("STACK " + size, one, isRight ? 0 : ShippedClass.LIMIT, isRight ? ShippedClass.NONE : m.at);
            ClassMaker locals = new ClassMaker();
            ClassMaker.Member n = locals.code("()V", 0, size, 177);
            byte[] two = locals.make();
            CHECKS.dueFault("LOCALS " + size, two, isRight ? 0 : ShippedClass.LIMIT, isRight ? ShippedClass.NONE : n.at);
        }
        ClassMaker maker = new ClassMaker();
        maker.code("()V", 0, 0, 177);
        ClassMaker.Member m = maker.code("(I)V", 0, 1, 0, 177);
        ShippedClass x = Checks.fed(maker.make());
        x.limit(1, 2);
        CHECKS.dueFault("each has no more than 2", x, 0, ShippedClass.NONE);
        x.limit(1, 1);
        CHECKS.dueFault("the second has 2", x, ShippedClass.LIMIT, m.at);
        x.limit(1, 600);
        CHECKS.dueFault("at most 600", x, 0, ShippedClass.NONE);
        ClassMaker bare = new ClassMaker();
        bare.method(0x400, "m", "()V");
        ShippedClass y = Checks.fed(bare.make());
        y.limit(1, 0);
        CHECKS.dueFault("no instructions at all", y, 0, ShippedClass.NONE);
    }

    private static void order() {
        ClassMaker maker = new ClassMaker();
        int use = maker.fieldAt(maker.parent, maker.pairOf("f", "I"));
        ClassMaker.Member first = maker.method(0, "m", "()V", 65, 0, 255);
        ClassMaker.Member second = maker.method(ClassMaker.NATIVE, "finalize", "()V");
        byte[] bytes = maker.make();
        ShippedClass x = withRules(bytes, "-O", "+x");
        x.limit(0, 1);
        CHECKS.dueFault("LIMIT of METHODS first", x, ShippedClass.LIMIT, maker.methodsAt);
        x.limit(0, 2);
        CHECKS.dueFault("then PROTECTED", x, ShippedClass.PROTECTED, maker.thisAt);
        CHECKS.dueFault("then FORBIDDEN", withRules(bytes), ShippedClass.FORBIDDEN, maker.placeOf(use));
        CHECKS.dueFault("then METHOD by METHOD", withRules(bytes, "+Up"), ShippedClass.LIMIT, first.at);
        ShippedClass y = withRules(bytes, "+Up");
        y.put(first.attributeAt + 7, 0);
        CHECKS.dueFault("NATIVE before FINALIZER and VERIFYING", y, ShippedClass.NATIVE, second.at);
    }
}
