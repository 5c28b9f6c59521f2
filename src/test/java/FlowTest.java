import java.util.Arrays;

/** Promise 7, IV. VERIFYING: how INSTRUCTIONS follow one another, HANDLERS and FRAMES. */
public final class FlowTest {
    private static final Checks CHECKS = new Checks();

    private FlowTest() {
    }

    public static void main(String[] args) {
        firstFrame();
        noRoomForArguments();
        fall();
        targets();
        stacksDiffer();
        localsMeet();
        halvesMeet();
        otherHalves();
        goneThroughAgain();
        wrongHandlers();
        rightHandlers();
        handlerFrames();
        handlerFaults();
        orderWithinAnInstruction();
        orderOfInstructions();
        methodByMethod();
        deadCode();
        CHECKS.end();
    }

    private static void due(String what, String type, int stack, int locals, int fault, int at, int... code) {
        ClassMaker maker = new ClassMaker();
        ClassMaker.Member m = maker.code(type, stack, locals, code);
        byte[] bytes = maker.make();
        CHECKS.dueFault(what, bytes, fault, fault == 0 ? ShippedClass.NONE : m.codeAt + at);
    }

    private static ShippedClass right(String what, String type, int stack, int locals, int... code) {
        ClassMaker maker = new ClassMaker();
        maker.code(type, stack, locals, code);
        ShippedClass x = Checks.fed(maker.make());
        CHECKS.dueFault(what, x, 0, ShippedClass.NONE);
        return x;
    }

    private static void dueLocals(String what, ShippedClass x, int at, String kinds) {
        for (int i = 0; i < kinds.length(); i++) {
            CHECKS.due(what + ": LOCAL " + i, x.kind(0, at, true, i), "UIJHA".indexOf(kinds.charAt(i)));
        }
        CHECKS.due(what + ": behind the LOCALS", x.kind(0, at, true, kinds.length()), ShippedClass.NONE);
    }

    private static void firstFrame() {
        String type = "(BCISZJL);[[DFDI)V";
        String kinds = "IIIIIJHAAUUUI";
        for (int i = 0; i < 2; i++) {
            ClassMaker maker = new ClassMaker();
            String due = (i == 0 ? "A" : "") + kinds;
            maker.method(8 * i, "m", type, 0, due.length() + 2, 177);
            ShippedClass x = Checks.fed(maker.make());
            CHECKS.dueFault("all TYPES", x, 0, ShippedClass.NONE);
            dueLocals("all TYPES", x, 0, due + "UU");
            CHECKS.due("no stack", x.depth(0, 0), 0);
        }
    }

    private static void noRoomForArguments() {
        String[] types = {"()V", "(I)V", "(J)V", "(D)V", "(F)V", "([J)V", "(IJDFLA;)V"};
        int[] widths = {0, 1, 2, 2, 1, 1, 7};
        for (int i = 0; i < types.length; i++) {
            for (int flags = 0; flags <= 8; flags += 8) {
                int width = widths[i] + (flags == 0 ? 1 : 0);
                for (int locals = Math.max(0, width - 2); locals <= width + 1; locals++) {
                    ClassMaker maker = new ClassMaker();
                    ClassMaker.Member m = maker.method(flags, "m", types[i], 0, locals, 177);
                    byte[] bytes = maker.make();
                    boolean isRight = locals >= width;
                    CHECKS.dueFault(types[i] + " in " + locals, bytes, isRight ? 0 : ShippedClass.LOCAL,
                            isRight ? ShippedClass.NONE : m.at);
                }
            }
        }
        ClassMaker full = new ClassMaker();
        ClassMaker.Member m = full.code("(" + "J".repeat(32) + "I)V", 0, 64, 177);
        CHECKS.dueFault("65 of 64", full.make(), ShippedClass.LOCAL, m.at);
        ClassMaker order = new ClassMaker();
        ClassMaker.Member n = order.code("(I)V", 0, 0, 0, 255);
        CHECKS.dueFault("OPCODE before it", order.make(), ShippedClass.OPCODE, n.codeAt + 1);
        ClassMaker handler = new ClassMaker();
        ClassMaker.Member h = handler.code("(I)V", 0, 0, 177);
        h.code.handler(0, 0, 0, 0);
        CHECKS.dueFault("HANDLER before it", handler.make(), ShippedClass.HANDLER, h.handlersAt);
    }

    private static void fall() {
        due("nothing behind", "()V", 1, 1, ShippedClass.FALL, 1, 0, 0);
        due("nothing behind a jump or not", "()V", 1, 1, ShippedClass.FALL, 1, 3, 154, 0, 99);
        due("it is not all there", "()V", 1, 1, ShippedClass.FALL, 1, 177, 17, 0);
        due("its own fault comes first", "()V", 0, 1, ShippedClass.STACK, 1, 0, 3);
        right("167 needs none behind", "()V", 0, 0, 0, 167, 255, 255);
    }

    private static void targets() {
        due("before all", "()V", 1, 0, ShippedClass.TARGET, 0, 167, 255, 255);
        due("behind all", "()V", 1, 0, ShippedClass.TARGET, 0, 167, 0, 3);
        due("far behind", "()V", 1, 0, ShippedClass.TARGET, 0, 167, 127, 255);
        due("far before", "()V", 1, 0, ShippedClass.TARGET, 0, 167, 128, 0);
        due("within an INSTRUCTION", "()V", 1, 0, ShippedClass.TARGET, 0, 167, 0, 1, 177);
        due("within another", "()V", 1, 0, ShippedClass.TARGET, 0, 167, 0, 4, 16, 3, 177);
        right("forth", "()V", 1, 0, 167, 0, 4, 0, 177);
        right("back", "()V", 1, 0, 3, 154, 255, 255, 177);
        ClassMaker maker = new ClassMaker();
        maker.code("()V", 0, 0, 177);
        ClassMaker.Member m = maker.code("(I)V", 0, 1, 167, 255, 229);
        byte[] bytes = maker.make();
        int from = maker.methods.get(0).codeAt;
        bytes[m.codeAt + 2] = (byte) (from - m.codeAt);
        CHECKS.dueFault("an INSTRUCTION of another METHOD", bytes, ShippedClass.TARGET, m.codeAt);
        for (int op = 153; op <= 199; op++) {
            if (op <= 167 || op >= 198) {
                String takes = op < 159 ? "I" : op < 165 ? "II" : op < 167 ? "AA" : op == 167 ? "" : "A";
                int[] code = {0, 0, op, 0, 9, 177};
                for (int i = 0; i < takes.length(); i++) {
                    code[1 - i] = takes.charAt(i) == 'I' ? 3 : 1;
                }
                due("opcode " + op + " jumps", "()V", 2, 0, ShippedClass.TARGET, 2, code);
            }
        }
    }

    private static void stacksDiffer() {
        due("deeper", "()V", 4, 0, ShippedClass.FRAME, 1, 3, 167, 255, 255);
        // 0 iconst, 1 ifeq 6, 4 iconst, 5 nop, 6 return
        due("going on, to what a jump has made", "()V", 4, 0, ShippedClass.FRAME, 5, 3, 153, 0, 5, 3, 0, 177);
        due("I and A", "()V", 4, 0, ShippedClass.FRAME, 8, 3, 153, 0, 7, 3, 167, 0, 4, 1, 177);
        due("J and two of I", "()V", 4, 0, ShippedClass.FRAME, 9, 3, 153, 0, 7, 9, 167, 0, 5, 3, 3, 177);
        right("the same", "()V", 4, 0, 3, 153, 0, 7, 3, 167, 0, 4, 3, 177);
        right("the same J", "()V", 4, 0, 3, 153, 0, 7, 9, 167, 0, 4, 10, 177);
        // All 64 of them are looked at.
        int[] code = new int[70];
        Arrays.fill(code, 0, 64, 3);
        code[64] = 87;
        code[65] = 1;
        code[66] = 167;
        code[67] = 255;
        code[68] = 254;
        code[69] = 177;
        due("the last of 64", "()V", 64, 0, ShippedClass.FRAME, 66, code);
    }

    private static void localsMeet() {
        // 0 iload_0, 1 ifeq 9, 4 iconst, 5 istore_1, 6 goto 11, 9 aconst, 10 astore_1, 11 return
        ShippedClass x = right("two ways", "(I)V", 1, 3, 26, 153, 0, 8, 3, 60, 167, 0, 5, 1, 76, 177);
        dueLocals("one way", x, 6, "IIU");
        dueLocals("the other", x, 10, "IUU");
        dueLocals("where they meet", x, 11, "IUU");
        // The same, but both I.
        ShippedClass y = right("two ways alike", "(I)V", 1, 3, 26, 153, 0, 8, 3, 60, 167, 0, 5, 3, 60, 177);
        dueLocals("where they meet alike", y, 11, "IIU");
        // 0 iload_0, 1 ifeq 7, 4 aconst, 5 astore_0, 6 return, 7 iload_0, 8 pop, 9 return
        ShippedClass z = right("each way has its own", "(I)V", 1, 1, 26, 153, 0, 6, 1, 75, 177, 26, 87, 177);
        dueLocals("what the other way has set", z, 7, "I");
        due("what has become U", "(I)V", 1, 3, ShippedClass.KIND, 11, 26, 153, 0, 8, 3, 60, 167, 0, 5, 1, 76, 27, 87, 177);
    }

    private static void halvesMeet() {
        // LOCALS I J H; one way sets LOCAL 2, the other none.
        ShippedClass x = right("the H", "(IJ)V", 1, 3, 26, 153, 0, 5, 3, 61, 177);
        dueLocals("one way", x, 6, "IUU");
        ShippedClass y = right("the H, back", "(IJ)V", 1, 4, 26, 153, 0, 8, 3, 61, 167, 255, 250, 177);
        dueLocals("the first again", y, 0, "IUUU");
        dueLocals("behind", y, 9, "IUUU");
        // LOCALS I J H U against I I J H: nothing is left but the first.
        ShippedClass z = right("moved by one", "(IJ)V", 2, 4, 26, 153, 0, 6, 9, 65, 0, 177);
        dueLocals("moved by one", z, 7, "IUUU");
        ShippedClass all = right("the last two of 64", "(I)V", 2, 64, 9, 55, 62, 26, 153, 0, 6, 3, 54, 63, 177);
        CHECKS.due("62", all.kind(0, 10, true, 62), 0);
        CHECKS.due("62 before", all.kind(0, 7, true, 62), 2);
        CHECKS.due("63 set", all.kind(0, 10, true, 63), 0);
    }

    private static void otherHalves() {
        dueLocals("I on J", right("I on J", "(J)V", 2, 3, 3, 59, 177), 2, "IUU");
        dueLocals("I on H", right("I on H", "(J)V", 2, 3, 3, 60, 177), 2, "UIU");
        dueLocals("A on H", right("A on H", "(J)V", 2, 3, 1, 76, 177), 2, "UAU");
        dueLocals("J on J", right("J on J", "(J)V", 2, 3, 9, 63, 177), 2, "JHU");
        dueLocals("J on H", right("J on H", "(J)V", 2, 3, 9, 64, 177), 2, "UJH");
        dueLocals("J on U J", right("J before J", "(IJ)V", 2, 4, 9, 63, 177), 2, "JHUU");
        dueLocals("J on H J", right("J between", "(JJ)V", 2, 4, 9, 64, 177), 2, "UJHU");
        dueLocals("J on J J", right("J on the second", "(JJ)V", 2, 4, 9, 65, 177), 2, "JHJH");
        dueLocals("I on U", right("I on U", "(J)V", 2, 3, 3, 61, 177), 2, "JHI");
        ShippedClass x = right("I on the last J", "()V", 2, 64, 9, 55, 62, 3, 54, 62, 177);
        CHECKS.due("the last J is there", x.kind(0, 3, true, 63), 3);
        CHECKS.due("the last H is gone", x.kind(0, 6, true, 63), 0);
        due("the half is of no use", "(J)V", 2, 2, ShippedClass.KIND, 2, 3, 60, 30, 177);
    }

    private static void goneThroughAgain() {
        // 0 iconst, 1 istore_0, 2 iload_0, 3 pop, 4 aconst, 5 astore_0, 6 goto 2: wrong the second time.
        due("a loop", "()V", 1, 1, ShippedClass.KIND, 2, 3, 59, 26, 87, 1, 75, 167, 255, 252);
        ShippedClass x = right("a loop that needs it no more", "()V", 1, 1, 3, 59, 0, 0, 1, 75, 167, 255, 252);
        dueLocals("the loop's begin", x, 2, "U");
        dueLocals("the loop's midst", x, 3, "U");
        dueLocals("the loop's end", x, 6, "A");
        ShippedClass y = right("itself", "(I)V", 1, 1, 26, 153, 255, 255, 177);
        CHECKS.due("all with a FRAME", y.count(5), 3);
    }

    private static void dueHandler(String what, boolean isRight, int start, int end, int to, int type) {
        // 0 nop, 1 ldc of a STRING, 3 pop, 4 return: at 3 there is A anyway.
        ClassMaker maker = new ClassMaker();
        ClassMaker.Member m = maker.code("()V", 1, 0, 0, 18, maker.stringAt(1), 87, 177);
        m.code.handler(0, 5, 3, maker.self).handler(start, end, to, type);
        byte[] bytes = maker.make();
        CHECKS.dueFault(what, bytes, isRight ? 0 : ShippedClass.HANDLER, isRight ? ShippedClass.NONE : m.handlersAt + 8);
    }

    private static void wrongHandlers() {
        dueHandler("right", true, 0, 4, 3, 2);
        dueHandler("up to the end", true, 4, 5, 3, 0);
        dueHandler("start is end", false, 1, 1, 3, 0);
        dueHandler("start is above end", false, 3, 1, 3, 0);
        dueHandler("start is none", false, 2, 4, 3, 0);
        dueHandler("end is none", false, 0, 2, 3, 0);
        dueHandler("end is behind all and one", false, 0, 6, 3, 0);
        dueHandler("start is behind all", false, 5, 6, 3, 0);
        dueHandler("to is none", false, 0, 4, 2, 0);
        dueHandler("to is behind all", false, 0, 4, 5, 0);
        dueHandler("type is a TEXT", false, 0, 4, 3, 1);
        dueHandler("type is none", false, 0, 4, 3, 999);
        dueHandler("large numbers", false, 65535, 65535, 65535, 65535);
        ClassMaker maker = new ClassMaker();
        ClassMaker.Member m = maker.code("()V", 0, 0, 87, 177);
        m.code.handler(0, 2, 1, 0).handler(0, 9, 1, 0);
        CHECKS.dueFault("HANDLERS before FRAMES", maker.make(), ShippedClass.HANDLER, m.handlersAt + 8);
    }

    private static void rightHandlers() {
        // 0 nop, 1 nop, 2 return, 3 pop, 4 return
        for (int start = 0; start < 3; start++) {
            for (int end = start + 1; end <= 3; end++) {
                ClassMaker maker = new ClassMaker();
                ClassMaker.Member m = maker.code("()V", 1, 0, 0, 0, 177, 87, 177);
                m.code.handler(start, end, 3, 0);
                ShippedClass x = Checks.fed(maker.make());
                CHECKS.dueFault("a HANDLER", x, 0, ShippedClass.NONE);
                CHECKS.due("it has A", x.kind(0, 3, false, 0), 4);
                CHECKS.due("it has nothing else", x.depth(0, 3), 1);
                CHECKS.due("all have a FRAME", x.count(5), 5);
            }
        }
        ClassMaker maker = new ClassMaker();
        ClassMaker.Member m = maker.code("()V", 1, 0, 0, 177, 87, 177);
        m.code.handler(2, 4, 2, 0);
        ShippedClass x = Checks.fed(maker.make());
        CHECKS.dueFault("none goes there", x, 0, ShippedClass.NONE);
        CHECKS.due("so it has no FRAME", x.depth(0, 2), ShippedClass.NONE);
    }

    private static void handlerFrames() {
        // 0 iconst, 1 istore_0, 2 return, 3 pop, 4 return: 1 still has U when it begins.
        ClassMaker before = new ClassMaker();
        before.code("()V", 1, 1, 3, 59, 177, 87, 177).code.handler(1, 2, 3, 0);
        ShippedClass x = Checks.fed(before.make());
        CHECKS.dueFault("the LOCALS before", x, 0, ShippedClass.NONE);
        dueLocals("the LOCALS before", x, 3, "U");
        ClassMaker behind = new ClassMaker();
        behind.code("()V", 1, 1, 3, 59, 177, 87, 177).code.handler(2, 3, 3, 0);
        ShippedClass y = Checks.fed(behind.make());
        CHECKS.dueFault("the LOCALS behind", y, 0, ShippedClass.NONE);
        dueLocals("the LOCALS behind", y, 3, "I");
        // 0 aconst, 1 astore_0, 2 return, 3 pop, 4 return: 2 is no more between start and end.
        ClassMaker end = new ClassMaker();
        end.code("(I)V", 1, 1, 1, 75, 177, 87, 177).code.handler(0, 2, 3, 0);
        ShippedClass e = Checks.fed(end.make());
        CHECKS.dueFault("end is no more of it", e, 0, ShippedClass.NONE);
        dueLocals("end is no more of it", e, 3, "I");
        // Three of them, of which the second and third have the same INSTRUCTION.
        ClassMaker three = new ClassMaker();
        three.code("(I)V", 1, 1, 0, 177, 191, 191, 191).code.handler(2, 3, 2, 0).handler(0, 1, 3, 0).handler(0, 1, 4, 2);
        ShippedClass t = Checks.fed(three.make());
        CHECKS.dueFault("three", t, 0, ShippedClass.NONE);
        CHECKS.due("the first is not reached", t.depth(0, 2), ShippedClass.NONE);
        CHECKS.due("the second is", t.depth(0, 3), 1);
        CHECKS.due("the third is", t.depth(0, 4), 1);
        // A HANDLER that is within its own reach: its own FRAME changes while it is gone through.
        ClassMaker own = new ClassMaker();
        ClassMaker.Member m = own.code("(I)V", 1, 1, 1, 75, 177);
        m.code.handler(0, 3, 1, 0);
        ShippedClass z = Checks.fed(own.make());
        CHECKS.dueFault("its own", z, 0, ShippedClass.NONE);
        dueLocals("its own", z, 1, "U");
        dueLocals("behind it", z, 2, "A");
    }

    private static void dueHandled(String what, int fault, int at, int stack, int[] handler, int... code) {
        ClassMaker maker = new ClassMaker();
        ClassMaker.Member m = maker.code("(I)V", stack, 1, code);
        m.code.handler(handler[0], handler[1], handler[2], 0);
        byte[] bytes = maker.make();
        CHECKS.dueFault(what, bytes, fault, m.codeAt + at);
    }

    private static void handlerFaults() {
        dueHandled("no room for A", ShippedClass.STACK, 1, 0, new int[] {1, 2, 1}, 0, 177);
        dueHandled("another stack", ShippedClass.FRAME, 1, 1, new int[] {1, 2, 0}, 0, 177);
        dueHandled("its own stack", ShippedClass.FRAME, 0, 1, new int[] {0, 1, 0}, 0, 177);
        dueHandled("I for A", ShippedClass.KIND, 1, 1, new int[] {0, 1, 1}, 177, 172);
    }

    private static void orderWithinAnInstruction() {
        dueHandled("takes before the HANDLERS", ShippedClass.KIND, 1, 4, new int[] {1, 2, 0}, 3, 191, 177);
        dueHandled("HANDLERS before the next", ShippedClass.FRAME, 1, 4, new int[] {1, 2, 0}, 3, 0);
        dueHandled("HANDLERS before a jump", ShippedClass.FRAME, 0, 4, new int[] {0, 3, 0}, 167, 9, 9);
        due("LOCAL before STACK", "()V", 0, 1, ShippedClass.LOCAL, 0, 54, 1, 177);
        due("LOCAL before KIND", "()V", 0, 1, ShippedClass.LOCAL, 0, 22, 0, 177);
        due("KIND of a LOCAL before STACK", "()V", 0, 1, ShippedClass.KIND, 0, 21, 0, 177);
        due("the last first", "()V", 4, 1, ShippedClass.KIND, 1, 1, 96, 177);
        due("the last first, then none", "()V", 4, 1, ShippedClass.STACK, 1, 3, 96, 177);
        due("the next before a jump", "()V", 4, 1, ShippedClass.FALL, 1, 3, 153, 9, 9);
        // 0 iconst, 1 ifeq 9, 4 iconst, 5 iconst, 6 ifeq nowhere, 9 return
        due("FRAME before TARGET", "()V", 4, 1, ShippedClass.FRAME, 6, 3, 153, 0, 8, 3, 3, 153, 9, 9, 177);
    }

    private static void orderOfInstructions() {
        // 0 goto 5, 3 pop (wrong, but reached later), 4 return, 5 iload_0, 6 ifeq 3, 9 lcmp (wrong, reached later too)
        due("the first of those that wait", "(I)V", 4, 1, ShippedClass.STACK, 3, 167, 0, 5, 87, 177, 26, 153, 255, 253, 148);
        due("the first as they come", "(I)V", 4, 1, ShippedClass.STACK, 4, 26, 153, 0, 4, 87, 177);
    }

    private static void methodByMethod() {
        ClassMaker maker = new ClassMaker();
        ClassMaker.Member first = maker.code("()V", 0, 0, 87, 177);
        maker.code("(I)V", 0, 1, 255);
        CHECKS.dueFault("FRAMES of the first before OPCODE of the second", maker.make(), ShippedClass.STACK, first.codeAt);
        ClassMaker second = new ClassMaker();
        second.code("()V", 0, 0, 177);
        second.method(0x400, "a", "()V");
        ClassMaker.Member m = second.code("(I)V", 0, 1, 0, 255);
        CHECKS.dueFault("the second", second.make(), ShippedClass.OPCODE, m.codeAt + 1);
    }

    private static void deadCode() {
        ShippedClass x = right("what is not reached", "()V", 0, 0, 177, 87, 167, 9, 9, 0);
        CHECKS.due("one FRAME", x.count(5), 1);
        due("but OPCODE", "()V", 0, 0, ShippedClass.OPCODE, 1, 177, 19, 0, 0);
    }
}
