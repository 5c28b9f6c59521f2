import java.util.Arrays;

/** Each sentence of IV. VERIFYING that names a bound, but for LOCALS: at it, one below and one above it. */
public final class VerifyingBoundsTest {
    private static final Checks CHECKS = new Checks();
    private static final int STACK = ShippedClass.STACK;
    private static final int KIND = ShippedClass.KIND;
    private static final int FALL = ShippedClass.FALL;
    private static final int FRAME = ShippedClass.FRAME;
    private static final int TARGET = ShippedClass.TARGET;
    private static final int LOCAL = ShippedClass.LOCAL;

    private VerifyingBoundsTest() {
    }

    public static void main(String[] args) {
        noSuchInstruction();
        notAllThere();
        handlerPlaces();
        handlerTypes();
        firstWrongHandler();
        thisBut();
        allOthers();
        moreThanLocals();
        nothingIsThere();
        anotherIsThere();
        moreThanStack();
        fullStack();
        handlersBetween();
        handlerNeedsRoom();
        handlersInOrder();
        goesOn();
        jumps();
        farJumps();
        stacksOfAllDepths();
        firstOfThoseThatWait();
        numbersWithoutSign();
        mustBeTheMethods();
        floatsAreKind();
        methodsWithCode();
        CHECKS.end();
    }

    private static void due(String what, String type, int stack, int locals, int fault, int at, int... code) {
        ClassMaker maker = new ClassMaker();
        ClassMaker.Member m = maker.code(type, stack, locals, code);
        byte[] bytes = maker.make();
        CHECKS.dueFault(what, bytes, fault, fault == 0 ? ShippedClass.NONE : m.codeAt + at);
    }

    private static int[] behind(int[] first, int... next) {
        int[] all = Arrays.copyOf(first, first.length + next.length);
        System.arraycopy(next, 0, all, first.length, next.length);
        return all;
    }

    private static int[] repeat(int many, int op) {
        int[] row = new int[many];
        Arrays.fill(row, op);
        return row;
    }

    private static void noSuchInstruction() {
        CHECKS.sentence("INSTRUCTIONS one behind the other, OPCODE if there is none such (at their PLACES)");
        for (int op : new int[] {11, 15, 19, 23, 24, 34, 41, 46, 53, 56, 57, 67, 74, 79, 86, 90, 91, 93, 94, 98, 99, 102,
                103, 106, 107, 110, 111, 114, 115, 118, 119, 134, 135, 137, 144, 149, 152, 168, 171, 174, 175, 185, 186, 188,
                189, 194, 197, 200, 201, 202, 254, 255}) {
            due(op + " alone", "()V", 0, 0, ShippedClass.OPCODE, 0, op);
            due(op + " not reached", "()V", 0, 0, ShippedClass.OPCODE, 1, 177, op, 177);
            due(op + " at the end", "()V", 0, 0, ShippedClass.OPCODE, 3, 17, 0, 0, op);
            due(op + " as an operand", "()V", 1, 0, 0, 0, 17, op, op, 87, 177);
        }
        due("the first of two", "()V", 0, 0, ShippedClass.OPCODE, 1, 87, 255, 254);
        due("OPCODE before FALL behind it", "()V", 0, 0, ShippedClass.OPCODE, 0, 255, 17);
    }

    private static void notAllThere() {
        CHECKS.sentence("FALL if it is not all there (at their PLACES)");
        int[] two = {16, 18, 21, 22, 25, 54, 55, 58};
        int[] three = {17, 20, 132, 153, 154, 158, 159, 164, 165, 166, 167, 178, 179, 180, 181, 182, 183, 184, 187, 192, 193,
            198, 199};
        for (int op : two) {
            due(op + " without its operand", "()V", 0, 0, FALL, 1, 177, op);
            due(op + " with it", "()V", 0, 0, 0, 0, 177, op, 0);
            due(op + " with one more", "()V", 0, 0, ShippedClass.OPCODE, 3, 177, op, 0, 255);
        }
        for (int op : three) {
            due(op + " without its operands", "()V", 0, 0, FALL, 1, 177, op);
            due(op + " with half of them", "()V", 0, 0, FALL, 1, 177, op, 0);
            due(op + " with them", "()V", 0, 0, 0, 0, 177, op, 0, 0);
            due(op + " with one more", "()V", 0, 0, ShippedClass.OPCODE, 4, 177, op, 0, 0, 255);
        }
        due("FALL before what is wrong when gone through", "()V", 0, 0, FALL, 1, 87, 17, 0);
    }

    /** 0 nop, 1 sipush, 4 pop, 5 bipush, 7 pop, 8 return: 9 is behind all. */
    private static final int[] STEPS = {0, 17, 0, 0, 87, 16, 0, 87, 177};

    private static boolean isStep(int at) {
        return at == 0 || at == 1 || at == 4 || at == 5 || at == 7 || at == 8;
    }

    private static void handlerPlaces() {
        CHECKS.sentence("start is below end, start and to are PLACES of INSTRUCTIONS, end is one, or behind all (HANDLER)");
        int[] numbers = {0, 1, 2, 3, 4, 5, 6, 7, 8, 9, 10, 256, 257, 32768, 65535};
        for (int start : numbers) {
            for (int end : numbers) {
                for (int to : numbers) {
                    ClassMaker maker = new ClassMaker();
                    ClassMaker.Member m = maker.code("()V", 1, 0, STEPS);
                    m.code.handler(start, end, to, 0);
                    ShippedClass x = Checks.fed(maker.make());
                    boolean isRight = start < end && isStep(start) && isStep(to) && (isStep(end) || end == 9);
                    String what = start + " .. " + end + " to " + to;
                    // A right one may have another fault then, for its stack differs.
                    CHECKS.due(what, x.audit() == ShippedClass.HANDLER ? 1 : 0, isRight ? 0 : 1);
                    if (!isRight) {
                        CHECKS.due(what + " at its PLACE", x.place(), m.handlersAt);
                    }
                }
            }
        }
    }

    private static void handlerTypes() {
        CHECKS.sentence("type 0 or of a CLASS (HANDLER)");
        for (int type : new int[] {0, 1, 2, 3, 4, 5, 6, 7, 8, 9, 10, 11, 12, 13, 14, 15, 16, 255, 256, 258, 65535}) {
            // 5 INT, 6 and 7 LONG, 8 STRING, 9 .. 12 FIELD, 13 .. 15 of the METHOD, 16 is n.
            ClassMaker maker = new ClassMaker();
            maker.intOf(1);
            maker.longOf(1);
            maker.stringAt(1);
            maker.ownField("f", "I");
            ClassMaker.Member m = maker.code("()V", 1, 0, 177, 191);
            m.code.handler(0, 1, 1, type);
            byte[] bytes = maker.make();
            boolean isRight = type == 0 || type == 2 || type == 4;
            CHECKS.dueFaultIf(!isRight, "type " + type, bytes, ShippedClass.HANDLER, m.handlersAt);
        }
    }

    private static void firstWrongHandler() {
        CHECKS.sentence("2. HANDLERS (the first is its PLACE)");
        for (int many = 0; many <= 4; many++) {
            for (int wrong = 0; wrong <= many; wrong++) {
                ClassMaker maker = new ClassMaker();
                ClassMaker.Member m = maker.code("()V", 1, 0, 177, 191);
                for (int i = 0; i < many; i++) {
                    m.code.handler(0, i >= wrong ? 0 : 1, 1, 0);
                }
                byte[] bytes = maker.make();
                CHECKS.dueFaultIf(wrong < many, wrong + " of " + many, bytes, ShippedClass.HANDLER, m.handlersAt + 8 * wrong);
            }
        }
        ClassMaker order = new ClassMaker();
        ClassMaker.Member m = order.code("(J)V", 0, 1, 87);
        m.code.handler(0, 0, 0, 0);
        CHECKS.dueFault("before the FRAMES", order.make(), ShippedClass.HANDLER, m.handlersAt);
    }

    private static void thisBut() {
        CHECKS.sentence("INSTRUCTION 0 begins with A for this (but with flag 8)");
        for (int bit = -1; bit < 16; bit++) {
            int flags = bit < 0 ? 0 : 1 << bit;
            if (flags != 0x100 && flags != 0x400) {
                ClassMaker maker = new ClassMaker();
                maker.method(flags, "m", "(I)V", 0, 2, 177);
                ShippedClass x = Checks.fed(maker.make());
                CHECKS.dueFault("flags " + flags, x, 0, ShippedClass.NONE);
                CHECKS.due("LOCAL 0 with " + flags, x.kind(0, 0, true, 0), flags == 8 ? 1 : 4);
                CHECKS.due("LOCAL 1 with " + flags, x.kind(0, 0, true, 1), flags == 8 ? 0 : 1);
                CHECKS.due("LOCAL 2 with " + flags, x.kind(0, 0, true, 2), ShippedClass.NONE);
                CHECKS.due("no stack", x.depth(0, 0), 0);
            }
        }
    }

    private static void allOthers() {
        CHECKS.sentence("all others U, no stack");
        String[] types = {"(I[IJI)V", "()V", "(J)V", "(FD)V", "([I)V"};
        String[] kinds = {"IAJHIUUU", "UUUUUUUU", "JHUUUUUU", "UUUUUUUU", "AUUUUUUU"};
        ClassMaker maker = new ClassMaker();
        for (String type : types) {
            // 0 iconst, 1 istore 7, 3 aconst, 4 athrow: what lies there at the end is not there for the next METHOD.
            maker.code(type, 1, 8, 3, 54, 7, 1, 191);
        }
        ShippedClass x = Checks.fed(maker.make());
        CHECKS.dueFault("five METHODS", x, 0, ShippedClass.NONE);
        for (int k = 0; k < types.length; k++) {
            CHECKS.due("the stack of " + types[k], x.depth(k, 0), 0);
            for (int i = 0; i < 8; i++) {
                CHECKS.due("LOCAL " + i + " of " + types[k], x.kind(k, 0, true, i), "UIJHA".indexOf(kinds[k].charAt(i)));
            }
        }
    }

    private static void moreThanLocals() {
        CHECKS.sentence("LOCAL at the METHOD's PLACE, if there are more than LOCALS");
        String[] types = {"", "I", "J", "D", "F", "LA;", "[J", "IJ", "JI", "DI", "ID", "FF", "JJJ", "[[DLA;S"};
        int[] widths = {0, 1, 2, 2, 1, 1, 1, 3, 3, 3, 3, 2, 6, 3};
        for (int i = 0; i < types.length; i++) {
            for (int flags = 0; flags <= 8; flags += 8) {
                int needs = widths[i] + (flags == 0 ? 1 : 0);
                for (int locals = 0; locals <= needs + 1; locals++) {
                    ClassMaker maker = new ClassMaker();
                    ClassMaker.Member m = maker.method(flags, "m", "(" + types[i] + ")V", 0, locals, 177);
                    CHECKS.dueFaultIf(locals < needs, types[i] + " in " + locals, maker.make(), LOCAL, m.at);
                }
            }
        }
        for (int many : new int[] {62, 63, 64, 65, 66, 128, 255, 256, 257, 320, 400}) {
            for (int flags = 0; flags <= 8; flags += 8) {
                ClassMaker maker = new ClassMaker();
                ClassMaker.Member m = maker.method(flags, "m", "(" + "I".repeat(many) + ")V", 0, 64, 177);
                CHECKS.dueFaultIf(many + (flags == 0 ? 1 : 0) > 64, many + " of 64", maker.make(), LOCAL, m.at);
            }
        }
        for (int many = 31; many <= 33; many++) {
            for (int flags = 0; flags <= 8; flags += 8) {
                ClassMaker maker = new ClassMaker();
                ClassMaker.Member m = maker.method(flags, "m", "(" + "J".repeat(many) + ")V", 0, 64, 177);
                CHECKS.dueFaultIf(2 * many + (flags == 0 ? 1 : 0) > 64, many + " J of 64", maker.make(), LOCAL, m.at);
            }
        }
    }

    private static void nothingIsThere() {
        CHECKS.sentence("what it takes from the stack, the last first (STACK if nothing is there");
        int[] takesOne = {87, 88, 89, 92, 95, 116, 117, 133, 136, 145, 172, 173, 176, 190, 191};
        for (int op : takesOne) {
            due(op + " of nothing", "()V", 4, 0, STACK, 0, op, 177);
        }
        for (int op : new int[] {96, 112, 120, 130, 88, 92, 95}) {
            due(op + " of one", "()V", 4, 0, STACK, 1, 3, op, 177);
        }
        due("two of two", "()V", 4, 0, 0, 0, 3, 3, 96, 87, 177);
        due("J of nothing", "()V", 4, 0, STACK, 0, 97, 177);
        due("J, J of one J", "()V", 4, 0, STACK, 1, 9, 97, 177);
        due("J, J of two J", "()V", 4, 0, 0, 0, 9, 9, 97, 88, 177);
        due("I, J of one I", "()V", 4, 0, STACK, 1, 3, 121, 177);
        due("A, A of one A", "()V", 4, 0, STACK, 1, 1, 165, 0, 3, 177);
    }

    private static void anotherIsThere() {
        CHECKS.sentence("KIND if it is another");
        due("J of one I", "()V", 4, 0, KIND, 1, 3, 136, 177);
        due("J of two I", "()V", 4, 0, KIND, 2, 3, 3, 136, 177);
        due("I of J", "()V", 4, 0, KIND, 1, 9, 133, 177);
        due("A of J", "()V", 4, 0, KIND, 1, 9, 190, 177);
        due("I of A", "()V", 4, 0, KIND, 1, 1, 133, 177);
        due("A of I", "()V", 4, 0, KIND, 1, 3, 190, 177);
        due("the last first: KIND, though the other is missing", "()V", 4, 0, KIND, 1, 1, 96, 177);
        due("the last first: STACK, for the other is missing", "()V", 4, 0, STACK, 1, 3, 96, 177);
        due("then the one before", "()V", 4, 0, KIND, 2, 1, 3, 96, 177);
        due("half of a J below I", "()V", 4, 0, KIND, 2, 9, 3, 96, 177);
        due("two, of which the lower is half a J", "()V", 4, 0, KIND, 2, 9, 3, 88, 177);
    }

    private static void moreThanStack() {
        CHECKS.sentence("what it puts there (STACK if it is more than STACK)");
        for (int stack = 0; stack <= 5; stack++) {
            for (int many = 0; many <= 6; many++) {
                int[] ones = behind(repeat(many, 3), 177);
                due(many + " of " + stack, "()V", stack, 0, many > stack ? STACK : 0, stack, ones);
                int[] twos = behind(repeat(many, 9), 177);
                due(many + " J of " + stack, "()V", stack, 0, 2 * many > stack ? STACK : 0, stack / 2, twos);
            }
        }
        due("133 with no room for J", "()V", 1, 0, STACK, 1, 3, 133, 177);
        due("133 with room for J", "()V", 2, 0, 0, 0, 3, 133, 177);
        due("136 needs less", "()V", 2, 0, 0, 0, 9, 136, 177);
        due("89 of 1", "()V", 1, 0, STACK, 1, 3, 89, 177);
        due("89 of 2", "()V", 2, 0, 0, 0, 3, 89, 177);
        due("92 of 3", "()V", 3, 0, STACK, 2, 3, 1, 92, 177);
        due("92 of 4", "()V", 4, 0, 0, 0, 3, 1, 92, 177);
        due("92 of J in 3", "()V", 3, 0, STACK, 1, 9, 92, 177);
        due("92 of J in 4", "()V", 4, 0, 0, 0, 9, 92, 177);
        due("95 needs no more", "()V", 2, 0, 0, 0, 3, 1, 95, 177);
        due("taken before it is put", "()V", 2, 0, 0, 0, 3, 3, 96, 177);
    }

    private static void fullStack() {
        CHECKS.sentence("STACK if it is more than STACK (which is at most 64)");
        for (int many = 62; many <= 65; many++) {
            due(many + " of 64", "()V", 64, 0, many > 64 ? STACK : 0, 64, behind(repeat(many, 3), 177));
            due(many + " and J of 64", "()V", 64, 0, many > 62 ? STACK : 0, Math.min(many, 64),
                    behind(repeat(many, 3), 9, 177));
            due(many + " of 63", "()V", 63, 0, many > 63 ? STACK : 0, 63, behind(repeat(many, 3), 177));
        }
        due("32 J of 64", "()V", 64, 0, 0, 0, behind(repeat(32, 9), 177));
        due("33 J of 64", "()V", 64, 0, STACK, 32, behind(repeat(33, 9), 177));
        due("31 J of 63", "()V", 63, 0, 0, 0, behind(repeat(31, 9), 177));
        due("32 J of 63", "()V", 63, 0, STACK, 31, behind(repeat(32, 9), 177));
    }

    private static void handlersBetween() {
        CHECKS.sentence("the HANDLERS that have it between start and end");
        // 0 goto 5, 3 nop, 4 nop, 5 nop, 6 return, 7 athrow: 3 and 4 are not gone through.
        int[] places = {0, 3, 4, 5, 6, 7, 8};
        for (int start : places) {
            for (int end : places) {
                if (start < end && start < 7) {
                    ClassMaker maker = new ClassMaker();
                    ClassMaker.Member m = maker.code("()V", 1, 0, 167, 0, 5, 0, 0, 0, 177, 191);
                    m.code.handler(start, Math.min(end, 7), 7, 0);
                    ShippedClass x = Checks.fed(maker.make());
                    CHECKS.dueFault(start + " .. " + end, x, 0, ShippedClass.NONE);
                    boolean isReached = start == 0 || end > 5;
                    CHECKS.due("it is reached", x.depth(0, 7), isReached ? 1 : ShippedClass.NONE);
                    CHECKS.due("those with a FRAME", x.count(5), isReached ? 4 : 3);
                }
            }
        }
        // 0 aconst, 1 astore_0, 2 iconst, 3 istore_0, 4 return, 5 athrow: LOCAL 0 is I, then A, then I.
        String[] due = {"I", "I", "A", "A", "I"};
        for (int at = 0; at < 5; at++) {
            ClassMaker maker = new ClassMaker();
            maker.code("(I)V", 1, 1, 1, 75, 3, 59, 177, 191).code.handler(at, at + 1, 5, 0);
            ShippedClass x = Checks.fed(maker.make());
            CHECKS.dueFault("as they were before " + at, x, 0, ShippedClass.NONE);
            CHECKS.due("as they were before " + at, x.kind(0, 5, true, 0), "UIJHA".indexOf(due[at]));
            CHECKS.due("and A", x.kind(0, 5, false, 0), 4);
            CHECKS.due("and nothing else", x.depth(0, 5), 1);
        }
    }

    private static void handlerNeedsRoom() {
        CHECKS.sentence("and A (STACK if STACK is 0)");
        for (int stack = 0; stack <= 2; stack++) {
            ClassMaker maker = new ClassMaker();
            ClassMaker.Member m = maker.code("()V", stack, 0, 0, 177, 191);
            m.code.handler(1, 2, 2, 0);
            CHECKS.dueFaultIf(stack == 0, "STACK " + stack, maker.make(), STACK, m.codeAt + 1);
        }
        ClassMaker none = new ClassMaker();
        none.code("()V", 0, 0, 177, 191).code.handler(1, 2, 1, 0);
        CHECKS.dueNone("one that nothing goes to needs no room", none.make());
    }

    private static void handlersInOrder() {
        CHECKS.sentence("the HANDLERS ..., in order, go on ...; then the next INSTRUCTION ...; then that to which it may jump");
        // At 3 there is I on the stack when 5 is gone through: to 3 is FRAME, whatever comes first or last.
        ClassMaker maker = new ClassMaker();
        ClassMaker.Member m = maker.code("()V", 1, 1, 3, 87, 3, 87, 0, 0);
        m.code.handler(5, 6, 3, 0);
        CHECKS.dueFault("FRAME of a HANDLER before FALL", maker.make(), FRAME, m.codeAt + 5);
        // The first HANDLER makes A of what the second one finds; the second one to the same PLACE differs in nothing.
        ClassMaker two = new ClassMaker();
        two.code("()V", 1, 0, 177, 191).code.handler(0, 1, 1, 0).handler(0, 1, 1, 2);
        CHECKS.dueNone("two to the same PLACE", two.make());
        for (int first = 0; first < 2; first++) {
            // 0 nop, 1 return, 2 athrow: to 0 the stack differs, to 2 it does not.
            ClassMaker one = new ClassMaker();
            ClassMaker.Member w = one.code("()V", 1, 0, 0, 177, 191);
            w.code.handler(1, 2, first == 0 ? 0 : 2, 0).handler(1, 2, first == 0 ? 2 : 0, 0);
            CHECKS.dueFault("one of two is wrong, number " + first, one.make(), FRAME, w.codeAt + 1);
        }
        // The HANDLER at 4 is before the next INSTRUCTION, which has no stack: FRAME is at 3 in both orders.
        ClassMaker next = new ClassMaker();
        ClassMaker.Member n = next.code("()V", 1, 0, 167, 0, 3, 0, 177);
        n.code.handler(3, 4, 4, 0);
        CHECKS.dueFault("the next after the HANDLERS", next.make(), FRAME, n.codeAt + 3);
        due("the next before the jump", "()V", 1, 0, FALL, 1, 3, 153, 127, 255);
    }

    private static void goesOn() {
        CHECKS.sentence("then the next INSTRUCTION, if it goes on (FALL if there is none)");
        due("0 goes on", "()V", 4, 2, FALL, 0, 0);
        due("0 goes on behind another", "()V", 4, 2, FALL, 1, 0, 0);
        due("1 goes on", "()V", 4, 2, FALL, 0, 1);
        due("16 goes on", "()V", 4, 2, FALL, 0, 16, 1);
        due("17 goes on", "()V", 4, 2, FALL, 0, 17, 1, 1);
        for (int op = 153; op <= 158; op++) {
            due(op + " goes on", "()V", 4, 2, FALL, 1, 3, op, 255, 255);
        }
        for (int op = 159; op <= 164; op++) {
            due(op + " goes on", "()V", 4, 2, FALL, 2, 3, 3, op, 255, 254);
        }
        for (int op = 165; op <= 166; op++) {
            due(op + " goes on", "()V", 4, 2, FALL, 2, 1, 1, op, 255, 254);
        }
        for (int op = 198; op <= 199; op++) {
            due(op + " goes on", "()V", 4, 2, FALL, 1, 1, op, 255, 255);
        }
        due("187 goes on", "()V", 4, 2, FALL, 0, 187, 0, 2);
        due("167 does not", "()V", 4, 2, 0, 0, 167, 0, 0);
        due("172 does not", "()I", 4, 2, 0, 0, 3, 172);
        due("173 does not", "()J", 4, 2, 0, 0, 9, 173);
        due("176 does not", "()LA;", 4, 2, 0, 0, 1, 176);
        due("177 does not", "()V", 4, 2, 0, 0, 177);
        due("191 does not", "()V", 4, 2, 0, 0, 1, 191);
        due("and what is behind has no FRAME", "()V", 4, 2, 0, 0, 177, 87, 0);
    }

    private static void jumps() {
        CHECKS.sentence("they jump by n, with a sign, from their PLACE ... (TARGET if none is there)");
        // 0 sipush, 3 pop, 4 goto n, 7 bipush, 9 pop, 10 return: 11 is behind all.
        for (int n = -7; n <= 9; n++) {
            int to = 4 + n;
            boolean isThere = to == 0 || to == 3 || to == 4 || to == 7 || to == 9 || to == 10;
            // Both 3 and 9 take one, but nothing lies on the stack.
            int fault = !isThere ? TARGET : to == 3 ? FRAME : to == 9 ? STACK : 0;
            int at = to == 9 ? 9 : 4;
            due("by " + n, "()V", 1, 0, fault, at, 17, 0, 0, 87, 167, n >> 8 & 255, n & 255, 16, 0, 87, 177);
        }
        for (int n : new int[] {-32768, -32767, -256, -255, -128, 127, 128, 255, 256, 32767}) {
            due("by " + n, "()V", 1, 0, TARGET, 4, 17, 0, 0, 87, 167, n >> 8 & 255, n & 255, 16, 0, 87, 177);
        }
        ClassMaker maker = new ClassMaker();
        ClassMaker.Member first = maker.code("()V", 0, 0, 177);
        ClassMaker.Member m = maker.code("(I)V", 0, 1, 167, 0, 0);
        ClassMaker.Member last = maker.code("(J)V", 0, 2, 177);
        byte[] bytes = maker.make();
        for (int to : new int[] {first.codeAt, last.codeAt}) {
            byte[] row = bytes.clone();
            row[m.codeAt + 1] = (byte) (to - m.codeAt >> 8);
            row[m.codeAt + 2] = (byte) (to - m.codeAt);
            CHECKS.dueFault("into another METHOD", row, TARGET, m.codeAt);
        }
        CHECKS.dueNone("to itself", bytes);
    }

    private static void farJumps() {
        CHECKS.sentence("jump by n, with a sign (n of more than one byte)");
        for (int far : new int[] {127, 128, 129, 255, 256, 257, 300}) {
            int[] forth = new int[far + 1];
            forth[0] = 167;
            forth[1] = far >> 8;
            forth[2] = far & 255;
            forth[far] = 177;
            dueFar("forth by " + far, forth);
            // 0 goto far, 3 return, far goto 3.
            int[] back = new int[far + 3];
            back[0] = 167;
            back[1] = far >> 8;
            back[2] = far & 255;
            back[3] = 177;
            back[far] = 167;
            back[far + 1] = 3 - far >> 8 & 255;
            back[far + 2] = 3 - far & 255;
            dueFar("back by " + (far - 3), back);
        }
    }

    private static void dueFar(String what, int[] code) {
        ClassMaker maker = new ClassMaker();
        maker.code("()V", 0, 0, code);
        ShippedClass x = Checks.fed(maker.make());
        x.limit(1, 600);
        CHECKS.dueFault(what, x, 0, ShippedClass.NONE);
        CHECKS.due(what + ": two or three with a FRAME", x.count(5), code[code.length - 1] == 177 ? 2 : 3);
    }

    private static void stacksOfAllDepths() {
        CHECKS.sentence("FRAME if the stacks differ");
        // many of I, then 0 .. 64 of them are taken, one is put that differs, and the rest again; then back to begin.
        for (int many = 1; many <= 64; many++) {
            for (int which : new int[] {0, 1, many / 2, many - 2, many - 1}) {
                if (which >= 0 && which < many) {
                    int taken = many - which;
                    int[] code = behind(behind(repeat(many, 3), repeat(taken, 87)), 1);
                    code = behind(behind(code, repeat(taken - 1, 3)), 167, 0, 0);
                    int at = code.length - 3;
                    int by = many - at;
                    code[at + 1] = by >> 8 & 255;
                    code[at + 2] = by & 255;
                    due("the one at " + which + " of " + many, "()V", 64, 0, FRAME, at, code);
                    code[many + taken] = 3;
                    due("none of " + many, "()V", 64, 0, 0, 0, code);
                }
            }
        }
        due("one more", "()V", 4, 0, FRAME, 1, 3, 167, 255, 255);
        due("one less", "()V", 4, 0, FRAME, 2, 3, 87, 167, 255, 255);
        due("as many", "()V", 4, 0, 0, 0, 3, 167, 0, 0);
        due("J for I, I", "()V", 4, 0, FRAME, 5, 3, 3, 87, 87, 9, 167, 255, 253);
        due("I, I for J", "()V", 4, 0, FRAME, 4, 9, 88, 3, 3, 167, 255, 253);
    }

    private static void firstOfThoseThatWait() {
        CHECKS.sentence("The first INSTRUCTION (of those whose FRAME is new or has changed since it was gone through)");
        // 0 goto 4, 3 pop, 4 iconst, 5 ifeq 3, 8 pop: both 3 and 8 wait, and are wrong.
        due("the one before", "()V", 1, 0, STACK, 3, 167, 0, 4, 87, 3, 153, 255, 254, 87);
        due("the one behind", "()V", 1, 0, STACK, 8, 167, 0, 4, 177, 3, 153, 255, 254, 87);
        // 0 iload_0, 1 ifeq 7, 4 aconst, 5 astore_0, 6 nop, 7 iload_0: only the FRAME that has changed is wrong.
        due("gone through before it changes", "(I)V", 1, 1, KIND, 7, 26, 153, 0, 6, 1, 75, 0, 26, 87, 177);
        // 0 iload_0 .. 7 goto 0 with LOCAL 0 as it was: nothing changes, so it ends.
        due("what has not changed is not gone through again", "(I)V", 1, 1, 0, 0, 26, 153, 0, 3, 167, 255, 252);
        // 0 nop, 1 iinc 0, 4 aconst, 5 astore_0, 6 goto 0: at 1 when it is gone through again.
        due("wrong when gone through again", "(I)V", 1, 1, KIND, 1, 0, 132, 0, 1, 1, 75, 167, 255, 250);
    }

    private static ClassMaker withNumber(int number, boolean isString) {
        ClassMaker maker = new ClassMaker();
        for (int k = 5; k < number; k++) {
            maker.text("");
        }
        int made = isString ? maker.stringAt(1) : maker.intOf(1);
        CHECKS.due("its number", made, number);
        return maker;
    }

    private static void numbersWithoutSign() {
        CHECKS.sentence("(o: one byte behind, n: two, a number without sign but where told)");
        for (int number : new int[] {5, 126, 127, 128, 129, 170}) {
            for (int off = -1; off <= 1; off++) {
                ClassMaker maker = withNumber(number, off == 0 && number % 2 == 0);
                ClassMaker.Member m = maker.code("()V", 1, 0, 18, number + off, 177);
                CHECKS.dueFaultIf(off != 0, "18 of " + number + " and " + off, maker.make(), ShippedClass.REFERENCE, m.codeAt);
            }
        }
        for (int number : new int[] {0, 255}) {
            due("18 of " + number, "()V", 1, 0, ShippedClass.REFERENCE, 0, 18, number, 177);
        }
        for (int high : new int[] {1, 127, 128, 255}) {
            due("187 of " + high + " 2", "()V", 1, 0, ShippedClass.REFERENCE, 0, 187, high, 2, 177);
            due("20 of " + high + " 2", "()V", 1, 0, ShippedClass.REFERENCE, 0, 20, high, 2, 177);
            due("178 of " + high + " 2", "()V", 1, 0, ShippedClass.REFERENCE, 0, 178, high, 2, 177);
            due("184 of " + high + " 2", "()V", 1, 0, ShippedClass.REFERENCE, 0, 184, high, 2, 177);
        }
        due("187 of 0 2", "()V", 1, 0, 0, 0, 187, 0, 2, 177);
    }

    private static void mustBeTheMethods() {
        CHECKS.sentence("172, 173, 176, 177: take I, J, A, nothing, which then must be the METHOD's (KIND)");
        String[] types = {"B", "C", "I", "S", "Z", "J", "LA;", "[I", "[[J", "[D", "F", "D", "V"};
        String kinds = "IIIIIJAAAAFDV";
        int[] puts = {3, 9, 1, 0};
        int[] ops = {172, 173, 176, 177};
        for (int i = 0; i < types.length; i++) {
            for (int k = 0; k < 4; k++) {
                boolean isRight = "IJAV".charAt(k) == kinds.charAt(i);
                due(ops[k] + " of " + types[i], "()" + types[i], 2, 0, isRight ? 0 : KIND, 1, puts[k], ops[k]);
                if (k < 3) {
                    due("STACK first", "()" + types[i], 2, 0, STACK, 0, ops[k]);
                    due("what it takes first", "()" + types[i], 2, 0, KIND, 1, puts[(k + 1) % 3], ops[k]);
                }
            }
        }
    }

    private static void floatsAreKind() {
        CHECKS.sentence("F, D where a KIND is taken or put: KIND");
        for (String type : new String[] {"F", "D"}) {
            for (int op = 178; op <= 184; op++) {
                ClassMaker maker = new ClassMaker();
                int use = op < 182 ? maker.ownField("f", type) : maker.ownMethod("m", "(" + type + ")V");
                // Two of A lie there, so that only the F or D is wrong.
                ClassMaker.Member m = maker.code("()V", 8, 0, 1, 1, op, 0, use, 177);
                CHECKS.dueFault(op + " of " + type, maker.make(), KIND, m.codeAt + 2);
                if (op >= 182) {
                    ClassMaker answer = new ClassMaker();
                    int call = answer.ownMethod("m", "()" + type);
                    ClassMaker.Member n = answer.code("()V", 8, 0, 1, op, 0, call, 177);
                    CHECKS.dueFault(op + " that answers " + type, answer.make(), KIND, n.codeAt + 1);
                }
            }
            ClassMaker row = new ClassMaker();
            int use = row.ownField("f", "[" + type);
            int call = row.ownMethod("m", "([" + type + ")[" + type);
            row.code("()V", 1, 0, 178, 0, use, 184, 0, call, 87, 177);
            CHECKS.dueNone("[ of " + type + " is A", row.make());
            ClassMaker own = new ClassMaker();
            own.code("(" + type + ")" + type, 0, 2, 167, 0, 0);
            CHECKS.dueNone("what the METHOD itself has is not taken", own.make());
        }
    }

    private static void methodsWithCode() {
        CHECKS.sentence("VERIFYING, METHOD by METHOD with CODE");
        for (int many = 1; many <= 8; many++) {
            for (int wrong = 0; wrong <= many; wrong++) {
                ClassMaker maker = new ClassMaker();
                int code = maker.text("Code");
                int type = maker.text("()V");
                ClassMaker.Member due = null;
                for (int i = 0; i < many; i++) {
                    boolean isBare = i % 3 == 1 && i != wrong;
                    ClassMaker.Member m = maker.member(maker.methods, isBare ? 0x400 : 8, maker.text("m" + i), type);
                    if (!isBare) {
                        m.code = new ClassMaker.Code();
                        m.code.name = code;
                        m.code.instructions = ClassMaker.bytes(i >= wrong ? 87 : 0, 177);
                    }
                    due = i == wrong ? m : due;
                }
                byte[] bytes = maker.make();
                CHECKS.dueFaultIf(wrong < many, wrong + " of " + many, bytes, STACK, due == null ? 0 : due.codeAt);
            }
        }
    }
}
