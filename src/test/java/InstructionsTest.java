import java.util.ArrayList;
import java.util.List;

/** Promise 7, the table of INSTRUCTIONS: what each has behind it, takes and puts. */
public final class InstructionsTest {
    private static final Checks CHECKS = new Checks();
    /** Goes to itself for ever: an end for any stack and any METHOD. */
    private static final int[] END = {167, 0, 0};
    private static final int WIDTH = 256;

    private InstructionsTest() {
    }

    public static void main(String[] args) {
        everyOpcode();
        plainEffects();
        loads();
        stores();
        increments();
        constants();
        shuffles();
        returns();
        fields();
        floatFields();
        calls();
        floatCalls();
        classes();
        CHECKS.end();
    }

    private static int lengthOf(int op) {
        String[] rows = {"0-10 1", "16 2", "17 3", "18 2", "20 3", "21-22 2", "25 2", "26-33 1", "42-45 1", "54-55 2",
            "58 2", "59-66 1", "75-78 1", "87-89 1", "92 1", "95-97 1", "100-101 1", "104-105 1", "108-109 1",
            "112-113 1", "116-117 1", "120-131 1", "132 3", "133 1", "136 1", "145-148 1", "153-167 3", "172-173 1",
            "176-177 1", "178-184 3", "187 3", "190-191 1", "192-193 3", "198-199 3"};
        for (String row : rows) {
            String[] parts = row.split("[ -]");
            if (op >= Integer.parseInt(parts[0]) && op <= Integer.parseInt(parts[parts.length - 2])) {
                return Integer.parseInt(parts[parts.length - 1]);
            }
        }
        return 0;
    }

    /** Behind a jump no INSTRUCTION is gone through, so that only their lengths count. */
    private static void everyOpcode() {
        for (int op = 0; op < 256; op++) {
            int length = lengthOf(op);
            for (int there = 1; there <= 4; there++) {
                int[] row = new int[3 + there];
                row[0] = 167;
                row[3] = op;
                for (int i = 4; i < row.length; i++) {
                    row[i] = 255;
                }
                ClassMaker maker = new ClassMaker();
                ClassMaker.Member m = maker.code("()V", 0, 0, row);
                byte[] bytes = maker.make();
                int fault = length == 0 || there > length ? ShippedClass.OPCODE : there < length ? ShippedClass.FALL : 0;
                int at = length == 0 || there < length ? 3 : 3 + length;
                CHECKS.dueFault("opcode " + op + " with " + there, bytes, fault,
                        fault == 0 ? ShippedClass.NONE : m.codeAt + at);
            }
        }
    }

    private static void add(List<Integer> to, int... values) {
        for (int value : values) {
            to.add(value);
        }
    }

    private static int[] row(List<Integer> from) {
        return from.stream().mapToInt(Integer::intValue).toArray();
    }

    private static void push(List<Integer> to, String kinds) {
        for (char kind : kinds.toCharArray()) {
            add(to, kind == 'I' ? 3 : kind == 'J' ? 9 : 1);
        }
    }

    private static String spread(String kinds) {
        return kinds.replace("J", "JH");
    }

    /** An INSTRUCTION behind others that put kinds (from the bottom on): the stack behind it, or the fault at it. */
    private static void due(ClassMaker maker, String kinds, int most, int[] instruction, Object want) {
        List<Integer> code = new ArrayList<>();
        push(code, kinds);
        int at = code.size();
        add(code, instruction);
        int behind = code.size();
        add(code, END);
        ClassMaker.Member m = maker.code("()V", most, 8, row(code));
        ShippedClass x = Checks.fed(maker.make());
        String what = "opcode " + instruction[0] + " on " + kinds + " of " + most;
        if (want instanceof Integer) {
            CHECKS.dueFault(what, x, (Integer) want, m.codeAt + at);
            return;
        }
        CHECKS.dueFault(what, x, 0, ShippedClass.NONE);
        if (x.place() == ShippedClass.NONE) {
            dueStack(what, x, behind, spread((String) want));
        }
    }

    private static void dueStack(String what, ShippedClass x, int at, String kinds) {
        CHECKS.due(what + ": depth", x.depth(0, at), kinds.length());
        for (int i = 0; i < kinds.length(); i++) {
            CHECKS.due(what + ": kind " + i, x.kind(0, at, false, i), "UIJHA".indexOf(kinds.charAt(i)));
        }
        CHECKS.due(what + ": above", x.kind(0, at, false, kinds.length()), ShippedClass.NONE);
    }

    private static int[] withOperands(int op) {
        int[] instruction = new int[lengthOf(op)];
        instruction[0] = op;
        if (instruction.length == 3) {
            // A jump by three goes where it goes on.
            instruction[2] = 3;
        }
        return instruction;
    }

    private static void plainEffects() {
        String[] rows = {"0 : ", "1 :A", "2-8 :I", "9-10 :J", "16-17 :I", "96 100 104 108 112 120 122 124 126 128 130 II:I",
            "97 101 105 109 113 127 129 131 JJ:J", "121 123 125 JI:J", "116 I:I", "117 J:J", "133 I:J", "136 J:I",
            "145-147 I:I", "148 JJ:I", "153-158 I:", "159-164 II:", "165-166 AA:", "198-199 A:", "190 A:I"};
        for (String text : rows) {
            String[] parts = text.trim().split(" ");
            String[] effect = (parts[parts.length - 1] + " ").split(":");
            for (int i = 0; i < parts.length - 1; i++) {
                String[] ends = parts[i].split("-");
                int last = Integer.parseInt(ends[ends.length - 1]);
                for (int op = Integer.parseInt(ends[0]); op <= last; op++) {
                    plainEffect(op, effect[0], effect[1].trim());
                }
            }
        }
    }

    private static void plainEffect(int op, String takes, String puts) {
        int[] instruction = withOperands(op);
        due(new ClassMaker(), takes, 8, instruction, puts);
        due(new ClassMaker(), "AJI" + takes, 9, instruction, "AJI" + puts);
        int before = spread(takes).length();
        if (spread(puts).length() > before) {
            due(new ClassMaker(), takes, before, instruction, ShippedClass.STACK);
            due(new ClassMaker(), "AJ" + takes, before + 3, instruction, ShippedClass.STACK);
            due(new ClassMaker(), takes, spread(puts).length(), instruction, puts);
        }
        for (int i = 0; i < takes.length(); i++) {
            due(new ClassMaker(), takes.substring(i + 1), 8, instruction, ShippedClass.STACK);
            for (char other : "IJA".toCharArray()) {
                if (other != takes.charAt(i)) {
                    String wrong = takes.substring(0, i) + other + takes.substring(i + 1);
                    due(new ClassMaker(), wrong, 8, instruction, ShippedClass.KIND);
                }
            }
        }
    }

    /** LOCALS 0 .. 7 of ([I I J [I I J): A I J H A I J H. */
    private static void dueLocal(int op, int local, int locals, Object want) {
        boolean isShort = lengthOf(op) == 1;
        List<Integer> code = new ArrayList<>();
        add(code, op);
        if (!isShort) {
            add(code, local);
        }
        int behind = code.size();
        add(code, END);
        ClassMaker maker = new ClassMaker();
        ClassMaker.Member m = maker.code("([IIJ[IIJ)V", 2, locals, row(code));
        ShippedClass x = Checks.fed(maker.make());
        String what = "opcode " + op + " of " + local;
        if (want instanceof Integer) {
            CHECKS.dueFault(what, x, (Integer) want, m.codeAt);
        } else {
            CHECKS.dueFault(what, x, 0, ShippedClass.NONE);
            dueStack(what, x, behind, spread((String) want));
        }
    }

    private static void loads() {
        String locals = "AIJHAIJHU";
        String kinds = "IJA";
        int[] wide = {21, 22, 25};
        int[] narrow = {26, 30, 42};
        for (int k = 0; k < 3; k++) {
            for (int i = 0; i < 12; i++) {
                int last = kinds.charAt(k) == 'J' ? i + 1 : i;
                Object want = ShippedClass.LOCAL;
                if (last < 9) {
                    want = locals.charAt(i) == kinds.charAt(k) ? kinds.substring(k, k + 1) : (Object) ShippedClass.KIND;
                }
                dueLocal(wide[k], i, 9, want);
                if (i < 4) {
                    dueLocal(narrow[k] + i, i, 9, want);
                }
            }
        }
        loadsOfAll("(IIII)V", "IIII");
        loadsOfAll("(JJJ)V", "JHJHJH");
        loadsOfAll("(IJJ)V", "IJHJH");
        loadsOfAll("([I[I[I[I)V", "AAAA");
        dueLocal(21, 255, 9, ShippedClass.LOCAL);
        dueLocal(22, 255, 64, ShippedClass.LOCAL);
    }

    private static void loadsOfAll(String type, String locals) {
        int[] narrow = {26, 30, 42};
        for (int k = 0; k < 3; k++) {
            for (int i = 0; i < 4; i++) {
                ClassMaker maker = new ClassMaker();
                ClassMaker.Member m = maker.code(type, 2, 8, narrow[k] + i, 167, 0, 0);
                boolean isRight = locals.charAt(i) == "IJA".charAt(k);
                byte[] bytes = maker.make();
                CHECKS.dueFault("opcode " + (narrow[k] + i) + " of " + type, bytes, isRight ? 0 : ShippedClass.KIND,
                        isRight ? ShippedClass.NONE : m.codeAt);
            }
        }
    }

    private static void stores() {
        String kinds = "IJA";
        int[] wide = {54, 55, 58};
        int[] narrow = {59, 63, 75};
        for (int k = 0; k < 3; k++) {
            for (int i = 0; i < 9; i++) {
                String kind = kinds.substring(k, k + 1);
                boolean isThere = (k == 1 ? i + 1 : i) < 8;
                due(new ClassMaker(), kind, 4, new int[] {wide[k], i}, isThere ? "" : (Object) ShippedClass.LOCAL);
                due(new ClassMaker(), "", 4, new int[] {wide[k], i}, isThere ? ShippedClass.STACK : ShippedClass.LOCAL);
                String other = k == 0 ? "J" : "I";
                due(new ClassMaker(), other, 4, new int[] {wide[k], i}, isThere ? ShippedClass.KIND : ShippedClass.LOCAL);
                if (i < 4) {
                    storeIsLoad(narrow[k] + i, kind, i);
                    due(new ClassMaker(), other, 4, new int[] {narrow[k] + i}, ShippedClass.KIND);
                    due(new ClassMaker(), "", 4, new int[] {narrow[k] + i}, ShippedClass.STACK);
                }
            }
        }
    }

    private static void storeIsLoad(int op, String kind, int local) {
        List<Integer> code = new ArrayList<>();
        push(code, kind);
        add(code, op);
        int behind = code.size();
        add(code, END);
        ClassMaker maker = new ClassMaker();
        maker.code("()V", 2, 8, row(code));
        ShippedClass x = Checks.fed(maker.make());
        CHECKS.dueFault("opcode " + op, x, 0, ShippedClass.NONE);
        for (int i = 0; i < 8; i++) {
            int due = i == local ? "UIJHA".indexOf(kind) : i == local + 1 && kind.equals("J") ? 3 : 0;
            CHECKS.due("opcode " + op + ": LOCAL " + i, x.kind(0, behind, true, i), due);
        }
    }

    private static void increments() {
        for (int i = 0; i < 10; i++) {
            ClassMaker maker = new ClassMaker();
            ClassMaker.Member m = maker.code("(IJ[IF)V", 0, 8, 132, i, 255, 167, 0, 0);
            byte[] bytes = maker.make();
            int fault = i == 0 ? 0 : i < 8 ? ShippedClass.KIND : ShippedClass.LOCAL;
            CHECKS.dueFault("132 of " + i, bytes, fault, fault == 0 ? ShippedClass.NONE : m.codeAt);
        }
    }

    private static void constants() {
        for (int k = 0; k < 12; k++) {
            ClassMaker maker = new ClassMaker();
            int number = maker.intOf(1);
            int string = maker.stringAt(1);
            int wide = maker.longOf(7);
            CHECKS.due("numbers", number * WIDTH * WIDTH + string * WIDTH + wide, 5 * WIDTH * WIDTH + 6 * WIDTH + 7);
            Object want = k == number ? "I" : k == string ? "A" : (Object) ShippedClass.REFERENCE;
            due(maker, "I", 8, new int[] {18, k}, want instanceof String ? "I" + want : want);
        }
        for (int k = 0; k < 12; k++) {
            ClassMaker maker = new ClassMaker();
            maker.intOf(1);
            maker.stringAt(1);
            maker.longOf(7);
            due(maker, "I", 8, new int[] {20, 0, k}, k == 7 ? "IJ" : (Object) ShippedClass.REFERENCE);
        }
        ClassMaker far = new ClassMaker();
        far.longOf(1);
        due(far, "", 8, new int[] {20, 1, 5}, ShippedClass.REFERENCE);
        ClassMaker full = new ClassMaker();
        int number = full.intOf(1);
        due(full, "A", 1, new int[] {18, number}, ShippedClass.STACK);
        ClassMaker wide = new ClassMaker();
        int two = wide.longOf(1);
        due(wide, "A", 2, new int[] {20, 0, two}, ShippedClass.STACK);
    }

    private static void shuffles() {
        Object[][] rows = {{87, "I", ""}, {87, "A", ""}, {87, "JA", "J"}, {87, "J", ShippedClass.KIND},
            {87, "", ShippedClass.STACK}, {88, "J", ""}, {88, "II", ""}, {88, "AI", ""}, {88, "IA", ""}, {88, "AA", ""},
            {88, "IJ", "I"}, {88, "JI", ShippedClass.KIND}, {88, "I", ShippedClass.STACK}, {88, "A", ShippedClass.STACK},
            {88, "", ShippedClass.STACK}, {89, "I", "II"}, {89, "A", "AA"}, {89, "IA", "IAA"},
            {89, "J", ShippedClass.KIND}, {89, "", ShippedClass.STACK}, {92, "J", "JJ"}, {92, "AI", "AIAI"},
            {92, "IA", "IAIA"}, {92, "II", "IIII"}, {92, "JIA", "JIAIA"}, {92, "AJ", "AJJ"}, {92, "JI", ShippedClass.KIND},
            {92, "I", ShippedClass.STACK}, {92, "", ShippedClass.STACK}, {95, "IA", "AI"}, {95, "AI", "IA"},
            {95, "II", "II"}, {95, "JAI", "JIA"}, {95, "JI", ShippedClass.KIND}, {95, "IJ", ShippedClass.KIND},
            {95, "I", ShippedClass.STACK}, {95, "", ShippedClass.STACK}};
        for (Object[] row : rows) {
            String kinds = (String) row[1];
            int[] instruction = {(Integer) row[0]};
            due(new ClassMaker(), kinds, 8, instruction, row[2]);
            if (row[2] instanceof String) {
                int before = spread(kinds).length();
                int behind = spread((String) row[2]).length();
                int most = Math.max(before, behind);
                due(new ClassMaker(), kinds, most, instruction, row[2]);
                for (int less = before; less < behind; less++) {
                    due(new ClassMaker(), kinds, less, instruction, ShippedClass.STACK);
                }
            }
        }
    }

    private static void returns() {
        String[] answers = {"I", "B", "C", "S", "Z", "J", "LA;", "[I", "[J", "F", "D", "V"};
        String due = "IIIIIJAAA--V";
        int[] ops = {172, 173, 176, 177};
        String takes = "IJA ";
        for (int i = 0; i < answers.length; i++) {
            for (int k = 0; k < 4; k++) {
                char own = takes.charAt(k) == ' ' ? 'V' : takes.charAt(k);
                boolean isOwn = due.charAt(i) == own;
                int push = "IJA ".charAt(k) == 'I' ? 3 : takes.charAt(k) == 'J' ? 9 : takes.charAt(k) == 'A' ? 1 : 0;
                ClassMaker maker = new ClassMaker();
                ClassMaker.Member m = maker.code("()" + answers[i], 2, 0, push, ops[k]);
                byte[] bytes = maker.make();
                CHECKS.dueFault("opcode " + ops[k] + " of " + answers[i], bytes, isOwn ? 0 : ShippedClass.KIND,
                        isOwn ? ShippedClass.NONE : m.codeAt + 1);
                ClassMaker bare = new ClassMaker();
                ClassMaker.Member n = bare.code("()" + answers[i], 2, 0, ops[k]);
                byte[] none = bare.make();
                int fault = k < 3 ? ShippedClass.STACK : isOwn ? 0 : ShippedClass.KIND;
                CHECKS.dueFault("opcode " + ops[k] + " of nothing", none, fault,
                        fault == 0 ? ShippedClass.NONE : n.codeAt);
            }
        }
        ClassMaker left = new ClassMaker();
        left.code("()I", 8, 0, 9, 1, 3, 172);
        CHECKS.dueNone("what lies below may stay", left.make());
    }

    private static void dueField(String type, int op, String kinds, int most, Object want) {
        ClassMaker maker = new ClassMaker();
        int field = maker.ownField("f", type);
        due(maker, kinds, most, new int[] {op, 0, field}, want);
    }

    private static void fields() {
        String[] types = {"I", "B", "C", "S", "Z", "J", "LA;", "[I", "[F"};
        String kinds = "IIIIIJAAA";
        for (int i = 0; i < types.length; i++) {
            String kind = kinds.substring(i, i + 1);
            String other = kind.equals("I") ? "A" : "I";
            int width = spread(kind).length();
            dueField(types[i], 178, "A", 8, "A" + kind);
            dueField(types[i], 178, "A", width, ShippedClass.STACK);
            dueField(types[i], 179, "A" + kind, 8, "A");
            dueField(types[i], 179, "A" + other, 8, ShippedClass.KIND);
            dueField(types[i], 179, "", 8, ShippedClass.STACK);
            dueField(types[i], 180, "IA", 8, "I" + kind);
            dueField(types[i], 180, "I", 8, ShippedClass.KIND);
            dueField(types[i], 180, "", 8, ShippedClass.STACK);
            dueField(types[i], 181, "JA" + kind, 8, "J");
            dueField(types[i], 181, "A" + other, 8, ShippedClass.KIND);
            dueField(types[i], 181, "I" + kind, 8, ShippedClass.KIND);
            dueField(types[i], 181, kind, 8, ShippedClass.STACK);
        }
        dueField("J", 180, "A", 1, ShippedClass.STACK);
        for (int op = 178; op <= 181; op++) {
            ClassMaker maker = new ClassMaker();
            int method = maker.ownMethod("f", "()I");
            due(maker, "", 8, new int[] {op, 0, method}, ShippedClass.REFERENCE);
            due(new ClassMaker(), "", 8, new int[] {op, 0, 0}, ShippedClass.REFERENCE);
            due(new ClassMaker(), "", 8, new int[] {op, 255, 255}, ShippedClass.REFERENCE);
        }
    }

    private static void floatFields() {
        for (String type : new String[] {"F", "D"}) {
            dueField(type, 178, "", 8, ShippedClass.KIND);
            dueField(type, 178, "A", 1, ShippedClass.KIND);
            dueField(type, 179, "I", 8, ShippedClass.KIND);
            dueField(type, 179, "J", 8, ShippedClass.KIND);
            dueField(type, 179, "", 8, ShippedClass.KIND);
            dueField(type, 180, "A", 8, ShippedClass.KIND);
            dueField(type, 180, "", 8, ShippedClass.STACK);
            dueField(type, 181, "AI", 8, ShippedClass.KIND);
        }
    }

    private static void dueCall(String name, String type, int op, String kinds, int most, Object want) {
        ClassMaker maker = new ClassMaker();
        int method = maker.ownMethod(name, type);
        due(maker, kinds, most, new int[] {op, 0, method}, want);
    }

    private static void calls() {
        dueCall("m", "()V", 184, "I", 8, "I");
        dueCall("m", "()J", 184, "I", 8, "IJ");
        dueCall("m", "()J", 184, "I", 2, ShippedClass.STACK);
        dueCall("m", "(IJLA;[D)Z", 184, "JIJAA", 8, "JI");
        dueCall("m", "(L);)[I", 184, "A", 8, "A");
        dueCall("m", "(IJ)V", 184, "JI", 8, ShippedClass.KIND);
        dueCall("m", "(IJ)V", 184, "J", 8, ShippedClass.STACK);
        dueCall("m", "(I)V", 184, "J", 8, ShippedClass.KIND);
        for (int op = 182; op <= 183; op++) {
            dueCall("m", "()V", op, "A", 8, "");
            dueCall("m", "(JI)LA;", op, "IAJI", 8, "IA");
            dueCall("m", "()V", op, "", 8, ShippedClass.STACK);
            dueCall("m", "()V", op, "I", 8, ShippedClass.KIND);
            dueCall("m", "(I)V", op, "I", 8, ShippedClass.STACK);
            dueCall("m", "(I)V", op, "JI", 8, ShippedClass.KIND);
        }
        dueCall("<init>", "(I)V", 183, "AI", 8, "");
        dueCall("<init>", "(I)V", 182, "", 8, ShippedClass.NAME);
        dueCall("<init>", "(I)V", 184, "", 8, ShippedClass.NAME);
        for (int op = 182; op <= 184; op++) {
            ClassMaker maker = new ClassMaker();
            int field = maker.ownField("f", "I");
            due(maker, "", 8, new int[] {op, 0, field}, ShippedClass.REFERENCE);
            due(new ClassMaker(), "", 8, new int[] {op, 1, 0}, ShippedClass.REFERENCE);
        }
        StringBuilder many = new StringBuilder();
        for (int i = 0; i < 64; i++) {
            many.append('I');
        }
        dueCall("m", "(" + many + ")V", 184, many.toString(), 64, "");
        dueCall("m", "(" + many + "I)V", 184, many.toString(), 64, ShippedClass.STACK);
    }

    private static void floatCalls() {
        for (String type : new String[] {"F", "D"}) {
            dueCall("m", "(" + type + ")V", 184, "J", 8, ShippedClass.KIND);
            dueCall("m", "(" + type + ")V", 184, "", 8, ShippedClass.KIND);
            dueCall("m", "(" + type + "I)V", 184, "", 8, ShippedClass.STACK);
            dueCall("m", "(" + type + "I)V", 184, "II", 8, ShippedClass.KIND);
            dueCall("m", "()" + type, 184, "", 8, ShippedClass.KIND);
            dueCall("m", "()" + type, 182, "", 8, ShippedClass.STACK);
            dueCall("m", "()" + type, 182, "A", 8, ShippedClass.KIND);
            dueCall("m", "([" + type + ")[" + type, 184, "A", 8, "A");
        }
    }

    private static void classes() {
        due(new ClassMaker(), "I", 8, new int[] {187, 0, 2}, "IA");
        due(new ClassMaker(), "I", 1, new int[] {187, 0, 2}, ShippedClass.STACK);
        due(new ClassMaker(), "IA", 2, new int[] {192, 0, 2}, "IA");
        due(new ClassMaker(), "IA", 2, new int[] {193, 0, 2}, "II");
        for (int op : new int[] {187, 192, 193}) {
            due(new ClassMaker(), "", 0, new int[] {op, 0, 1}, ShippedClass.REFERENCE);
            due(new ClassMaker(), "", 0, new int[] {op, 0, 0}, ShippedClass.REFERENCE);
            due(new ClassMaker(), "", 0, new int[] {op, 2, 2}, ShippedClass.REFERENCE);
        }
        for (int op : new int[] {192, 193}) {
            due(new ClassMaker(), "", 8, new int[] {op, 0, 2}, ShippedClass.STACK);
            due(new ClassMaker(), "I", 8, new int[] {op, 0, 2}, ShippedClass.KIND);
            due(new ClassMaker(), "J", 8, new int[] {op, 0, 2}, ShippedClass.KIND);
        }
        due(new ClassMaker(), "", 8, new int[] {191}, ShippedClass.STACK);
        due(new ClassMaker(), "I", 8, new int[] {191}, ShippedClass.KIND);
        ClassMaker thrown = new ClassMaker();
        thrown.code("()V", 2, 0, 3, 1, 191);
        CHECKS.dueNone("191 does not go on", thrown.make());
    }
}
