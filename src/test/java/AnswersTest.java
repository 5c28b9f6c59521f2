/** Promises 9 to 12: what the last audit that had no FAULT read. */
public final class AnswersTest {
    private static final Checks CHECKS = new Checks();
    private static final Class<IllegalArgumentException> ARGUMENT = IllegalArgumentException.class;
    private static final Class<IllegalStateException> STATE = IllegalStateException.class;
    private static final int LOWEST = Integer.MIN_VALUE;
    private static final int HIGHEST = Integer.MAX_VALUE;

    private AnswersTest() {
    }

    public static void main(String[] args) {
        noneYet();
        counts();
        countsOfAPlainClass();
        texts();
        noSuchText();
        depths();
        kinds();
        theLastGoodOne();
        manyCalls();
        CHECKS.end();
    }

    private static void noneYet() {
        ShippedClass x = Checks.fed(new byte[10]);
        for (int i = 0; i < 2; i++) {
            for (int what = -2; what < 9; what++) {
                int asked = what;
                CHECKS.dueThrow("count " + what, () -> x.count(asked), STATE);
                CHECKS.dueThrow("text " + what, () -> x.text(asked, 0, 0), STATE);
                CHECKS.dueThrow("depth " + what, () -> x.depth(asked, asked), STATE);
                CHECKS.dueThrow("kind " + what, () -> x.kind(asked, 0, asked > 0, 0), STATE);
            }
            CHECKS.due("an audit that has a FAULT", x.audit(), ShippedClass.MAGIC);
        }
    }

    /** Two METHODS with CODE and one without between them. */
    private static ClassMaker rich() {
        ClassMaker maker = new ClassMaker();
        maker.implementing(maker.classOf("First")).implementing(maker.classOf("a/Second"));
        maker.field(0, "one", "I");
        maker.field(0, "two", "[La/B;");
        // 0 lconst, 1 iconst, 2 pop, 3 lstore_0, 4 return, 5 nop (none goes there)
        maker.method(8, "m", "()V", 4, 3, 9, 3, 87, 63, 177, 0);
        maker.method(0x400, "bare", "(I)J");
        // 0 aload_0, 1 iload_1, 2 ifeq 7, 5 pop, 6 return, 7 pop, 8 return
        maker.method(0, "<init>", "(I)V", 2, 2, 42, 27, 153, 0, 5, 87, 177, 87, 177);
        return maker;
    }

    private static ShippedClass audited(ClassMaker maker) {
        ShippedClass x = Checks.fed(maker.make());
        CHECKS.dueFault("a right class", x, 0, ShippedClass.NONE);
        return x;
    }

    private static void counts() {
        ClassMaker maker = rich();
        int last = maker.longOf(1);
        ShippedClass x = audited(maker);
        int[] due = {last + 1, 2, 2, 3, 15, 5 + 7, 3};
        for (int what = 0; what < due.length; what++) {
            CHECKS.due("count " + what, x.count(what), due[what]);
        }
        CHECKS.dueThrow("count -1", () -> x.count(-1), ARGUMENT);
        CHECKS.dueThrow("count 7", () -> x.count(7), ARGUMENT);
        CHECKS.dueThrow("count of the lowest", () -> x.count(LOWEST), ARGUMENT);
        CHECKS.dueThrow("count of the highest", () -> x.count(HIGHEST), ARGUMENT);
    }

    private static void countsOfAPlainClass() {
        ShippedClass x = audited(new ClassMaker());
        int[] due = {4, 0, 0, 0, 0, 0, 0};
        for (int what = 0; what < due.length; what++) {
            CHECKS.due("plain count " + what, x.count(what), due[what]);
        }
        ClassMaker full = new ClassMaker();
        int[] code = new int[67];
        for (int i = 0; i < 64; i++) {
            code[i] = 3;
        }
        code[64] = 167;
        full.code("()V", 64, 0, code);
        CHECKS.due("the most on a stack", audited(full).count(6), 64);
        ClassMaker handler = new ClassMaker();
        handler.code("()V", 1, 0, 177, 87, 177).code.handler(0, 1, 1, 0);
        CHECKS.due("A of a HANDLER", audited(handler).count(6), 1);
    }

    private static void dueText(ShippedClass x, int what, int k, String text) {
        for (int i = 0; i < text.length(); i++) {
            CHECKS.due("text " + what + " of " + k + " at " + i, x.text(what, k, i), text.charAt(i));
        }
        CHECKS.due("text " + what + " of " + k + ", behind it", x.text(what, k, text.length()), ' ');
        CHECKS.due("text " + what + " of " + k + ", before it", x.text(what, k, -1), ' ');
        CHECKS.due("text " + what + " of " + k + ", far behind", x.text(what, k, HIGHEST), ' ');
        CHECKS.due("text " + what + " of " + k + ", far before", x.text(what, k, LOWEST), ' ');
    }

    private static void texts() {
        ShippedClass x = audited(rich());
        for (int k : new int[] {0, 5, -1, LOWEST, HIGHEST}) {
            dueText(x, 0, k, "Own");
            dueText(x, 1, k, "Up");
        }
        dueText(x, 2, 0, "First");
        dueText(x, 2, 1, "a/Second");
        dueText(x, 3, 0, "one");
        dueText(x, 3, 1, "two");
        dueText(x, 4, 0, "I");
        dueText(x, 4, 1, "[La/B;");
        dueText(x, 5, 0, "m");
        dueText(x, 5, 1, "bare");
        dueText(x, 5, 2, "<init>");
        dueText(x, 6, 0, "()V");
        dueText(x, 6, 1, "(I)J");
        dueText(x, 6, 2, "(I)V");
    }

    private static void noSuchText() {
        ShippedClass x = audited(rich());
        int[] many = {0, 0, 2, 2, 2, 3, 3};
        for (int what = 2; what <= 6; what++) {
            for (int k : new int[] {-1, many[what], many[what] + 70, LOWEST, HIGHEST}) {
                CHECKS.due("text " + what + " of " + k, x.text(what, k, 0), ' ');
            }
        }
        for (int what : new int[] {-1, 7, LOWEST, HIGHEST}) {
            CHECKS.dueThrow("text " + what, () -> x.text(what, 0, 0), ARGUMENT);
        }
    }

    private static void depths() {
        ShippedClass x = audited(rich());
        int none = ShippedClass.NONE;
        int[][] due = {{0, 2, 3, 2, 0, none}, {none}, {0, 1, 2, none, none, 1, 0, 1, 0}};
        for (int method = 0; method < 3; method++) {
            for (int at = 0; at < due[method].length; at++) {
                CHECKS.due("depth of " + method + " at " + at, x.depth(method, at), due[method][at]);
            }
            for (int at : new int[] {-1, due[method].length, 600, LOWEST, HIGHEST}) {
                CHECKS.due("depth of " + method + " at " + at, x.depth(method, at), none);
            }
            // What lies there may be instructions of another METHOD.
            for (int i = 0; i < 90; i++) {
                CHECKS.due("depth before " + method, x.depth(method, -1 - i), none);
                CHECKS.due("depth behind " + method, x.depth(method, due[method].length + i), none);
            }
        }
        for (int method : new int[] {-1, 3, 75, LOWEST, HIGHEST}) {
            CHECKS.due("depth of " + method, x.depth(method, 0), none);
            CHECKS.due("kind of " + method, x.kind(method, 0, true, 0), none);
        }
    }

    private static void dueKinds(ShippedClass x, int method, int at, boolean isLocal, String kinds) {
        String what = "kind of " + method + " at " + at + (isLocal ? " LOCAL " : " stack ");
        for (int i = 0; i < kinds.length(); i++) {
            CHECKS.due(what + i, x.kind(method, at, isLocal, i), "UIJHA".indexOf(kinds.charAt(i)));
        }
        for (int i : new int[] {-1, kinds.length(), 64, 128, LOWEST, HIGHEST}) {
            CHECKS.due(what + i, x.kind(method, at, isLocal, i), ShippedClass.NONE);
        }
    }

    private static void kinds() {
        ShippedClass x = audited(rich());
        dueKinds(x, 0, 0, false, "");
        dueKinds(x, 0, 1, false, "JH");
        dueKinds(x, 0, 2, false, "JHI");
        dueKinds(x, 0, 4, false, "");
        dueKinds(x, 0, 3, true, "UUU");
        dueKinds(x, 0, 4, true, "JHU");
        dueKinds(x, 0, 5, true, "");
        dueKinds(x, 0, 5, false, "");
        dueKinds(x, 1, 0, true, "");
        dueKinds(x, 2, 2, false, "AI");
        dueKinds(x, 2, 2, true, "AI");
        dueKinds(x, 2, 3, true, "");
        dueKinds(x, 2, -1, true, "");
        dueKinds(x, 2, 9, true, "");
    }

    private static void theLastGoodOne() {
        ClassMaker maker = rich();
        ShippedClass x = audited(maker);
        int at = maker.methods.get(0).codeAt;
        x.put(at + 1, 9);
        CHECKS.due("bytes that have changed are not read yet", x.depth(0, 2), 3);
        CHECKS.dueFault("a wrong one", x, ShippedClass.KIND, at + 2);
        CHECKS.due("after a FAULT in its FRAMES", x.depth(0, 2), 3);
        dueText(x, 5, 1, "bare");
        x.put(0, 0);
        CHECKS.dueFault("a worse one", x, ShippedClass.MAGIC, 0);
        CHECKS.due("after a FAULT at once", x.count(3), 3);
        x.cut(0);
        CHECKS.dueFault("none", x, ShippedClass.SHORT, 0);
        dueText(x, 0, 0, "Own");
        dueKinds(x, 2, 2, false, "AI");
        ClassMaker other = new ClassMaker();
        other.self = other.classOf("Other");
        other.code("(J)V", 0, 2, 177);
        Checks.feed(x, other.make());
        CHECKS.due("fed, but not looked through", x.count(3), 3);
        CHECKS.dueFault("another class", x, 0, ShippedClass.NONE);
        CHECKS.due("its METHODS", x.count(3), 1);
        CHECKS.due("its INTERFACES", x.count(1), 0);
        CHECKS.due("its FRAMES", x.count(5), 1);
        dueText(x, 0, 0, "Other");
        dueText(x, 2, 0, "");
        dueKinds(x, 0, 0, true, "JH");
        CHECKS.due("nothing is left of the first", x.depth(0, 1), ShippedClass.NONE);
        CHECKS.due("nor of its METHODS", x.depth(2, 0), ShippedClass.NONE);
    }

    /** The most calls on one object, all of the dearest sort: no audit may leave something for the next. */
    private static void manyCalls() {
        ClassMaker good = rich();
        byte[] bytes = good.make();
        ShippedClass x = Checks.fed(bytes);
        int at = good.methods.get(2).codeAt;
        int calls = 40;
        while (calls < 500) {
            CHECKS.dueFault("again", x, 0, ShippedClass.NONE);
            CHECKS.due("its FRAMES again", x.count(5), 12);
            x.put(at + 1, 43);
            CHECKS.dueFault("wrong again", x, ShippedClass.KIND, at + 1);
            x.put(at + 1, 27);
            calls += 7;
        }
    }
}
