/** Each sentence of promises 9 to 12 that names a bound: at it, one below and one above it. */
public final class AnswerBoundsTest {
    private static final Checks CHECKS = new Checks();
    private static final Class<IllegalArgumentException> ARGUMENT = IllegalArgumentException.class;
    private static final Class<IllegalStateException> STATE = IllegalStateException.class;
    private static final int NONE = ShippedClass.NONE;
    private static final int[] FAR = {Integer.MIN_VALUE, Integer.MIN_VALUE + 1, -65536, -600, -2, 600, 65536,
        Integer.MAX_VALUE - 64, Integer.MAX_VALUE};

    private AnswerBoundsTest() {
    }

    public static void main(String[] args) {
        lastGoodAudit();
        thereWasNone();
        anotherWhat();
        nLess1();
        howMany();
        bytesInAll();
        withAFrame();
        mostOnTheStack();
        charactersOfTexts();
        everyCharacter();
        thoseThatAreNot();
        depthOfBytes();
        depthOfMethods();
        kindsOfTheStack();
        kindsOfLocals();
        kindsWithoutFrame();
        CHECKS.end();
    }

    private static ShippedClass audited(ClassMaker maker) {
        ShippedClass x = Checks.fed(maker.make());
        CHECKS.dueFault("it is right", x, 0, NONE);
        return x;
    }

    private static void lastGoodAudit() {
        CHECKS.sentence("Of what the last audit that had no FAULT read");
        ClassMaker one = new ClassMaker();
        one.field(0, "f", "I");
        ShippedClass x = audited(one);
        CHECKS.due("the first", x.count(2), 1);
        x.cut(0);
        CHECKS.due("the bytes are gone", x.count(2), 1);
        CHECKS.due("a FAULT", x.audit(), ShippedClass.SHORT);
        CHECKS.due("after a FAULT", x.count(2), 1);
        CHECKS.due("another FAULT", x.audit(), ShippedClass.SHORT);
        CHECKS.due("after two of them", x.text(3, 0, 0), 'f');
        ClassMaker two = new ClassMaker();
        two.field(0, "g", "J");
        two.field(0, "h", "J");
        two.code("()V", 2, 2, 9, 177);
        Checks.feed(x, two.make());
        CHECKS.due("the second is fed", x.count(2), 1);
        CHECKS.dueFault("the second", x, 0, NONE);
        CHECKS.due("the second is read", x.count(2), 2);
        CHECKS.due("its FIELD", x.text(3, 0, 0), 'g');
        CHECKS.due("its stack", x.depth(0, 1), 2);
        int at = two.methods.get(0).codeAt;
        x.put(at, 87);
        CHECKS.dueFault("a FAULT when its code is gone through", x, ShippedClass.STACK, at);
        CHECKS.due("its stack stays", x.depth(0, 1), 2);
        CHECKS.due("its KINDS stay", x.kind(0, 1, false, 1), 3);
        CHECKS.due("its bytes of instructions stay", x.count(4), 2);
        x.put(at, 3);
        CHECKS.dueFault("the third", x, 0, NONE);
        CHECKS.due("its own stack", x.depth(0, 1), 1);
    }

    private static void thereWasNone() {
        CHECKS.sentence("IllegalState: there was none");
        ShippedClass x = new ShippedClass();
        for (int audits = 0; audits < 3; audits++) {
            for (int what = -1; what <= 7; what++) {
                int asked = what;
                CHECKS.dueThrow("count " + what, () -> x.count(asked), STATE);
                CHECKS.dueThrow("text " + what, () -> x.text(asked, asked, asked), STATE);
                CHECKS.dueThrow("depth " + what, () -> x.depth(asked, asked), STATE);
                CHECKS.dueThrow("kind " + what, () -> x.kind(asked, asked, asked % 2 == 0, asked), STATE);
            }
            CHECKS.due("an audit with a FAULT", x.audit(), ShippedClass.SHORT);
        }
        Checks.feed(x, new ClassMaker().make());
        CHECKS.dueThrow("fed, but not looked through", () -> x.count(0), STATE);
        CHECKS.due("looked through", x.audit(), 0);
        CHECKS.due("there is one", x.count(0), 4);
    }

    private static void anotherWhat() {
        CHECKS.sentence("IllegalArgument: another what");
        ShippedClass x = audited(new ClassMaker());
        for (int what = 0; what <= 6; what++) {
            CHECKS.due("count " + what, x.count(what), what == 0 ? 4 : 0);
            CHECKS.due("text " + what, x.text(what, 0, 0), what == 0 ? 'O' : what == 1 ? 'U' : ' ');
        }
        for (int what : new int[] {-1, 7, 8}) {
            CHECKS.dueThrow("count " + what, () -> x.count(what), ARGUMENT);
            CHECKS.dueThrow("text " + what, () -> x.text(what, 0, 0), ARGUMENT);
        }
        for (int what : FAR) {
            CHECKS.dueThrow("count " + what, () -> x.count(what), ARGUMENT);
            CHECKS.dueThrow("text " + what, () -> x.text(what, what, what), ARGUMENT);
        }
    }

    private static void nLess1() {
        CHECKS.sentence("what = 0 n less 1 (0, if that is 0)");
        // The least n of a class that can be right: a TEXT and a CLASS.
        byte[] least = ClassMaker.bytes(0xCA, 0xFE, 0xBA, 0xBE, 0, 0, 0, 45, 0, 3, 1, 0, 1, 'A', 7, 0, 1,
                0, 0, 0, 2, 0, 2, 0, 0, 0, 0, 0, 0, 0, 0);
        ShippedClass x = Checks.fed(least);
        CHECKS.dueFault("n of 3", x, 0, NONE);
        CHECKS.due("n of 3", x.count(0), 2);
        for (int n = 0; n < 2; n++) {
            byte[] none = ClassMaker.bytes(0xCA, 0xFE, 0xBA, 0xBE, 0, 0, 0, 45, 0, n, 0, 0, 0, 1, 0, 1, 0, 0, 0, 0, 0, 0, 0, 0);
            ShippedClass y = Checks.fed(none);
            CHECKS.dueFault("n of " + n + " has no THIS", y, ShippedClass.REFERENCE, 12);
            CHECKS.dueThrow("so that nothing can be told of it", () -> y.count(0), STATE);
        }
        ClassMaker many = new ClassMaker();
        for (int k = 5; k < 180; k++) {
            many.text("");
        }
        CHECKS.due("n of 180", audited(many).count(0), 179);
        ClassMaker wide = new ClassMaker();
        wide.longOf(1);
        CHECKS.due("LONG counts two", audited(wide).count(0), 6);
        wide.numbers = 6;
        CHECKS.due("but n tells", audited(wide).count(0), 5);
    }

    private static void howMany() {
        CHECKS.sentence("1 INTERFACES, 2 FIELDS, 3 METHODS");
        for (int many = 0; many <= 16; many++) {
            ClassMaker maker = new ClassMaker();
            int type = maker.text("()V");
            int other = maker.text("I");
            for (int i = 0; i < many; i++) {
                int name = maker.text("m" + (char) ('a' + i));
                maker.implementing(maker.self).implementing(maker.parent);
                maker.member(maker.methods, 0x400, name, type);
                if (i > 0) {
                    maker.member(maker.fields, 0, name, other);
                }
            }
            ShippedClass x = audited(maker);
            CHECKS.due("INTERFACES", x.count(1), 2 * many);
            CHECKS.due("FIELDS", x.count(2), Math.max(0, many - 1));
            CHECKS.due("METHODS", x.count(3), many);
        }
        ClassMaker most = new ClassMaker();
        for (int i = 0; i < 255; i++) {
            most.implementing(most.self);
        }
        CHECKS.due("255 INTERFACES", audited(most).count(1), 255);
        most.implementing(most.self);
        CHECKS.due("256 INTERFACES", audited(most).count(1), 256);
    }

    private static int[] nops(int many) {
        int[] row = new int[many];
        row[many - 1] = 177;
        return row;
    }

    private static void bytesInAll() {
        CHECKS.sentence("4 bytes of instructions in all");
        int[][] rows = {{}, {1}, {1, 1}, {1, 2, 3}, {200}, {200, 55}, {200, 56}, {200, 57}};
        for (int[] lengths : rows) {
            ClassMaker maker = new ClassMaker();
            int all = 0;
            for (int length : lengths) {
                maker.code("()V", 0, 0, nops(length)).name = maker.text("m" + all);
                all += length;
            }
            maker.method(0x400, "bare", "()V");
            CHECKS.due("bytes in all", audited(maker).count(4), all);
        }
    }

    private static void withAFrame() {
        CHECKS.sentence("5 INSTRUCTIONS with a FRAME in all");
        int[][] codes = {{177}, {0, 177}, {177, 0}, {167, 0, 0}, {17, 0, 0, 177}, {167, 0, 4, 0, 177}, {167, 0, 4, 0, 177, 0, 0}};
        int[] due = {1, 2, 1, 1, 2, 2, 2};
        for (int i = 0; i < codes.length; i++) {
            for (int k = 0; k < codes.length; k++) {
                ClassMaker maker = new ClassMaker();
                maker.code("()V", 1, 0, codes[i]);
                maker.code("()V", 1, 0, codes[k]).name = maker.text("n");
                CHECKS.due("code " + i + " and " + k, audited(maker).count(5), due[i] + due[k]);
            }
        }
        ClassMaker handler = new ClassMaker();
        handler.code("()V", 1, 0, 177, 191, 0).code.handler(0, 1, 1, 0);
        CHECKS.due("that of a HANDLER", audited(handler).count(5), 2);
        CHECKS.due("without CODE", audited(new ClassMaker()).count(5), 0);
        ClassMaker many = new ClassMaker();
        many.code("()V", 0, 0, nops(200));
        CHECKS.due("200 of them", audited(many).count(5), 200);
    }

    private static int[] pushes(int ones, int twos) {
        int[] row = new int[ones + twos + 1];
        for (int i = 0; i < ones + twos; i++) {
            row[i] = i < ones ? 3 : 9;
        }
        row[ones + twos] = 177;
        return row;
    }

    private static void mostOnTheStack() {
        CHECKS.sentence("6 the most that lies on the stack in a FRAME (J as two)");
        int[][] rows = {{0, 0}, {1, 0}, {0, 1}, {1, 1}, {63, 0}, {64, 0}, {0, 32}, {62, 1}, {1, 31}, {0, 31}};
        for (int[] row : rows) {
            ClassMaker maker = new ClassMaker();
            maker.code("()V", 64, 0, pushes(row[0], row[1]));
            CHECKS.due(row[0] + " and " + row[1], audited(maker).count(6), row[0] + 2 * row[1]);
        }
        ClassMaker maker = new ClassMaker();
        maker.code("()V", 64, 0, pushes(2, 0));
        maker.code("()V", 64, 0, pushes(5, 0)).name = maker.text("n");
        maker.code("()V", 64, 0, pushes(3, 0)).name = maker.text("o");
        maker.code("()V", 64, 0, 177, 3, 3, 3, 3, 3, 3, 3, 177).name = maker.text("p");
        CHECKS.due("of all METHODS, but only in a FRAME", audited(maker).count(6), 5);
        ClassMaker handler = new ClassMaker();
        handler.code("()V", 9, 0, 177, 191).code.handler(0, 1, 1, 0);
        CHECKS.due("that of a HANDLER", audited(handler).count(6), 1);
    }

    private static ClassMaker withTexts() {
        ClassMaker maker = new ClassMaker();
        maker.self = maker.classOf("a/This");
        maker.parent = maker.classOf("b/Super");
        maker.implementing(maker.classOf("i/One")).implementing(maker.classOf("i/Another")).implementing(maker.self);
        maker.field(0, "f", "I");
        maker.field(0, "gg", "[Lx/Y;");
        maker.method(0x400, "<init>", "(I)V");
        maker.method(0x400, "m", "()[[J");
        maker.method(0x400, "<clinit>", "()V");
        maker.method(0x400, "longer", "(Lx/Y;JJ)D");
        return maker;
    }

    private static final String[][] TEXTS = {{"a/This"}, {"b/Super"}, {"i/One", "i/Another", "a/This"}, {"f", "gg"},
        {"I", "[Lx/Y;"}, {"<init>", "m", "<clinit>", "longer"}, {"(I)V", "()[[J", "()V", "(Lx/Y;JJ)D"}};

    private static void charactersOfTexts() {
        CHECKS.sentence("character i of a text: ...; a space if there is none");
        for (int what = 0; what <= 6; what++) {
            for (int k = 0; k < TEXTS[what].length; k++) {
                ShippedClass x = audited(withTexts());
                String due = TEXTS[what][k];
                for (int i = -2; i <= due.length() + 2; i++) {
                    char want = i >= 0 && i < due.length() ? due.charAt(i) : ' ';
                    CHECKS.due("text " + what + " of " + k + " at " + i, x.text(what, k, i), want);
                }
                for (int i : FAR) {
                    CHECKS.due("text " + what + " of " + k + " at " + i, x.text(what, k, i), ' ');
                }
            }
        }
    }

    private static void everyCharacter() {
        CHECKS.sentence("character i of a text (each that a NAME may have)");
        StringBuilder name = new StringBuilder();
        for (char c = 33; c < 128; c++) {
            if (".;[/<>".indexOf(c) < 0) {
                name.append(c);
            }
        }
        ClassMaker maker = new ClassMaker();
        maker.self = maker.classOf(name.toString());
        maker.field(0, name.toString(), "L" + name + ";");
        ShippedClass x = audited(maker);
        for (int i = 0; i < name.length(); i++) {
            CHECKS.due("THIS at " + i, x.text(0, 0, i), name.charAt(i));
            CHECKS.due("the name at " + i, x.text(3, 0, i), name.charAt(i));
            CHECKS.due("the type at " + i, x.text(4, 0, i + 1), name.charAt(i));
        }
        ClassMaker far = new ClassMaker();
        far.self = far.classOf("x".repeat(255) + "yz");
        ShippedClass y = audited(far);
        CHECKS.due("at 254", y.text(0, 0, 254), 'x');
        CHECKS.due("at 255", y.text(0, 0, 255), 'y');
        CHECKS.due("at 256", y.text(0, 0, 256), 'z');
        CHECKS.due("at 257", y.text(0, 0, 257), ' ');
    }

    private static void thoseThatAreNot() {
        CHECKS.sentence("2 INTERFACE k's, 3 the name of FIELD k, ... a space if there is none");
        ShippedClass x = audited(withTexts());
        for (int what = 2; what <= 6; what++) {
            int many = TEXTS[what].length;
            for (int k : new int[] {-1, many, many + 1, 74, 75, 76}) {
                for (int i = -1; i < 3; i++) {
                    CHECKS.due("text " + what + " of " + k, x.text(what, k, i), ' ');
                }
            }
            for (int k : FAR) {
                CHECKS.due("text " + what + " of " + k, x.text(what, k, 0), ' ');
            }
            CHECKS.due("the last one", x.text(what, many - 1, 0), TEXTS[what][many - 1].charAt(0));
        }
        for (int k : FAR) {
            CHECKS.due("THIS has no k", x.text(0, k, 0), 'a');
            CHECKS.due("nor has SUPER", x.text(1, k, 0), 'b');
        }
    }

    /** Two METHODS with CODE, and one without between them. */
    private static ClassMaker withCode() {
        ClassMaker maker = new ClassMaker();
        // 0 bipush, 2 lconst, 3 sipush, 6 pop, 7 pop2, 8 goto 12, 11 nop, 12 pop, 13 return, 14 nop
        maker.code("()V", 4, 3, 16, 1, 9, 17, 0, 0, 87, 88, 167, 0, 4, 0, 87, 177, 0);
        maker.method(0x400, "bare", "()V");
        maker.code("(J[I)V", 3, 4, 30, 44, 167, 0, 0);
        return maker;
    }

    private static final int[][] DEPTHS = {{0, NONE, 1, 3, NONE, NONE, 4, 3, 1, NONE, NONE, NONE, 1, 0, NONE}, {},
        {0, 2, 3, NONE, NONE}};

    private static void depthOfBytes() {
        CHECKS.sentence("at byte at of the instructions ... NONE if there is no INSTRUCTION with a FRAME");
        ShippedClass x = audited(withCode());
        for (int method = 0; method < 3; method++) {
            int many = DEPTHS[method].length;
            for (int at = -3; at < many + 60; at++) {
                CHECKS.due("depth of " + method + " at " + at, x.depth(method, at),
                        at >= 0 && at < many ? DEPTHS[method][at] : NONE);
            }
            for (int at : FAR) {
                CHECKS.due("depth of " + method + " at " + at, x.depth(method, at), NONE);
            }
        }
    }

    private static void depthOfMethods() {
        CHECKS.sentence("of METHOD k how much lies on the stack ... NONE if there is no INSTRUCTION");
        ShippedClass x = audited(withCode());
        for (int method : new int[] {-1, 1, 3, 4, 74, 75, 76}) {
            CHECKS.due("depth of " + method, x.depth(method, 0), NONE);
            CHECKS.due("stack of " + method, x.kind(method, 0, false, 0), NONE);
            CHECKS.due("LOCALS of " + method, x.kind(method, 0, true, 0), NONE);
        }
        for (int method : FAR) {
            CHECKS.due("depth of " + method, x.depth(method, 0), NONE);
            CHECKS.due("stack of " + method, x.kind(method, 0, false, 0), NONE);
            CHECKS.due("LOCALS of " + method, x.kind(method, 0, true, 0), NONE);
        }
        CHECKS.due("the last", x.depth(2, 0), 0);
    }

    private static void dueKinds(ShippedClass x, int method, int at, boolean isLocal, String kinds) {
        String what = (isLocal ? "LOCAL " : "stack ") + "of " + method + " at " + at + ": ";
        for (int i = -2; i <= 130; i++) {
            boolean isThere = i >= 0 && i < kinds.length();
            CHECKS.due(what + i, x.kind(method, at, isLocal, i), isThere ? "UIJHA".indexOf(kinds.charAt(i)) : NONE);
        }
        for (int i : FAR) {
            CHECKS.due(what + i, x.kind(method, at, isLocal, i), NONE);
        }
    }

    private static void kindsOfTheStack() {
        CHECKS.sentence("the KIND at place i of the stack, from the bottom on ...; NONE if there is none such");
        dueKinds(audited(withCode()), 0, 0, false, "");
        dueKinds(audited(withCode()), 0, 2, false, "I");
        dueKinds(audited(withCode()), 0, 3, false, "IJH");
        dueKinds(audited(withCode()), 0, 6, false, "IJHI");
        dueKinds(audited(withCode()), 2, 2, false, "JHA");
        ClassMaker full = new ClassMaker();
        full.code("()V", 64, 0, pushes(62, 1));
        dueKinds(audited(full), 0, 63, false, "I".repeat(62) + "JH");
        dueKinds(audited(full), 0, 62, false, "I".repeat(62));
    }

    private static void kindsOfLocals() {
        CHECKS.sentence("or of LOCAL i; NONE if there is none such");
        dueKinds(audited(withCode()), 0, 0, true, "UUU");
        dueKinds(audited(withCode()), 2, 0, true, "JHAU");
        for (int locals : new int[] {0, 1, 2, 15, 16, 17, 63, 64}) {
            ClassMaker maker = new ClassMaker();
            maker.code("(" + "I".repeat(locals) + ")V", 0, locals, 177);
            dueKinds(audited(maker), 0, 0, true, "I".repeat(locals));
            ClassMaker free = new ClassMaker();
            free.code("()V", 0, locals, 177);
            dueKinds(audited(free), 0, 0, true, "U".repeat(locals));
        }
    }

    private static void kindsWithoutFrame() {
        CHECKS.sentence("There the KIND ...; NONE if there is none such (where there is no INSTRUCTION with a FRAME)");
        for (int at : new int[] {-1, 1, 4, 5, 9, 10, 11, 14, 15, 16}) {
            ShippedClass x = audited(withCode());
            for (int i = 0; i < 4; i++) {
                CHECKS.due("stack at " + at, x.kind(0, at, false, i), NONE);
                CHECKS.due("LOCAL at " + at, x.kind(0, at, true, i), NONE);
            }
        }
    }
}
