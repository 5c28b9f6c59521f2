import java.util.ArrayList;
import java.util.List;

/** Each sentence of IV. VERIFYING about LOCALS that names a bound: at it, one below and one above it. */
public final class LocalBoundsTest {
    private static final Checks CHECKS = new Checks();
    private static final int LOCAL = ShippedClass.LOCAL;
    private static final int KIND = ShippedClass.KIND;
    private static final String KINDS = "IJA";
    private static final int[] PUTS = {3, 9, 1};
    private static final int[] LOADS = {21, 22, 25};
    private static final int[] STORES = {54, 55, 58};
    private static final int[] SHORT_LOADS = {26, 30, 42};
    private static final int[] SHORT_STORES = {59, 63, 75};

    private LocalBoundsTest() {
    }

    public static void main(String[] args) {
        noneSuchToLoad();
        noneSuchToStore();
        noneSuchToCount();
        anotherIsThere();
        otherHalves();
        differingBecomeU();
        differingAtEveryNumber();
        changesGoOn();
        CHECKS.end();
    }

    private static void due(String what, String type, int locals, int fault, int at, int... code) {
        ClassMaker maker = new ClassMaker();
        ClassMaker.Member m = maker.code(type, 2, locals, code);
        byte[] bytes = maker.make();
        CHECKS.dueFault(what, bytes, fault, fault == 0 ? ShippedClass.NONE : m.codeAt + at);
    }

    private static int lastOf(int kind, int local) {
        return kind == 1 ? local + 1 : local;
    }

    private static void noneSuchToLoad() {
        CHECKS.sentence("A LOCAL that is told: LOCAL if there is none such (for J also its second one)");
        for (int k = 0; k < 3; k++) {
            for (int o : new int[] {0, 1, 2, 3, 4, 15, 16, 61, 62, 63, 64, 65, 127, 128, 254, 255}) {
                for (int locals : new int[] {0, o - 1, o, o + 1, o + 2, o + 3, 63, 64}) {
                    if (locals >= 0 && locals <= 64) {
                        // None of them is set, so that the next fault is KIND.
                        int fault = lastOf(k, o) >= locals ? LOCAL : KIND;
                        due(LOADS[k] + " of " + o + " in " + locals, "()V", locals, fault, 1, 0, LOADS[k], o, 177);
                        if (o < 4) {
                            int op = SHORT_LOADS[k] + o;
                            due(op + " in " + locals, "()V", locals, fault, 1, 0, op, 177);
                        }
                    }
                }
            }
        }
    }

    private static void noneSuchToStore() {
        CHECKS.sentence("LOCAL if there is none such (for J also its second one); one that is set");
        for (int k = 0; k < 3; k++) {
            for (int o : new int[] {0, 1, 2, 3, 4, 15, 16, 61, 62, 63, 64, 65, 127, 128, 254, 255}) {
                for (int locals : new int[] {0, o - 1, o, o + 1, o + 2, o + 3, 63, 64}) {
                    if (locals >= 0 && locals <= 64) {
                        int fault = lastOf(k, o) >= locals ? LOCAL : 0;
                        due(STORES[k] + " of " + o + " in " + locals, "()V", locals, fault, 1, PUTS[k], STORES[k], o, 177);
                        due("LOCAL before STACK", "()V", locals, fault == 0 ? ShippedClass.STACK : LOCAL, 1, 0, STORES[k], o, 177);
                        if (o < 4) {
                            int op = SHORT_STORES[k] + o;
                            due(op + " in " + locals, "()V", locals, fault, 1, PUTS[k], op, 177);
                        }
                    }
                }
            }
        }
    }

    private static void noneSuchToCount() {
        CHECKS.sentence("132 o o: LOCAL o is I");
        for (int o : new int[] {0, 1, 62, 63, 64, 128, 255}) {
            for (int locals : new int[] {0, o, o + 1, 64}) {
                if (locals <= 64) {
                    due("132 of " + o + " in " + locals, "()V", locals, o >= locals ? LOCAL : KIND, 0, 132, o, 0, 177);
                }
                if (o < locals && locals <= 64) {
                    due("132 of I " + o + " in " + locals, "()V", locals, 0, 0, 3, 54, o, 132, o, 255, 177);
                }
            }
        }
    }

    private static void anotherIsThere() {
        CHECKS.sentence("KIND if another is there");
        // I A J H U U U (of F and D) and one that nothing sets.
        String there = "IAJHUUUU";
        for (int o = 0; o < there.length() - 1; o++) {
            for (int k = 0; k < 3; k++) {
                boolean isIt = there.charAt(o) == KINDS.charAt(k);
                due(LOADS[k] + " of " + there.charAt(o), "(I[IJFD)V", 8, isIt ? 0 : KIND, 0, LOADS[k], o, 177);
                if (o < 4) {
                    due(SHORT_LOADS[k] + o + " of " + there.charAt(o), "(I[IJFD)V", 8, isIt ? 0 : KIND, 0,
                            SHORT_LOADS[k] + o, 177);
                }
            }
            due("132 of " + there.charAt(o), "(I[IJFD)V", 8, o == 0 ? 0 : KIND, 0, 132, o, 1, 177);
        }
    }

    /** All that LOCALS may be, so many of them. */
    private static List<String> layouts(int many) {
        List<String> all = new ArrayList<>();
        if (many == 0) {
            all.add("");
            return all;
        }
        for (String rest : layouts(many - 1)) {
            all.add("U" + rest);
            all.add("I" + rest);
            all.add("A" + rest);
        }
        if (many > 1) {
            for (String rest : layouts(many - 2)) {
                all.add("JH" + rest);
            }
        }
        return all;
    }

    private static void setAll(List<Integer> code, String layout, int from) {
        for (int i = 0; i < layout.length(); i++) {
            int k = KINDS.indexOf(layout.charAt(i));
            if (k >= 0) {
                code.add(PUTS[k]);
                code.add(STORES[k]);
                code.add(from + i);
            }
        }
    }

    private static int[] row(List<Integer> from) {
        return from.stream().mapToInt(Integer::intValue).toArray();
    }

    private static void dueLocals(String what, ShippedClass x, int at, int from, String layout) {
        for (int i = 0; i < layout.length(); i++) {
            CHECKS.due(what + ": LOCAL " + (from + i), x.kind(0, at, true, from + i), "UIJHA".indexOf(layout.charAt(i)));
        }
    }

    private static String afterStore(String layout, int k, int at) {
        char[] all = layout.toCharArray();
        for (int i = at; i <= lastOf(k, at); i++) {
            if (layout.charAt(i) == 'J') {
                all[i + 1] = 'U';
            } else if (layout.charAt(i) == 'H') {
                all[i - 1] = 'U';
            }
        }
        all[at] = KINDS.charAt(k);
        if (k == 1) {
            all[at + 1] = 'H';
        }
        return new String(all);
    }

    private static void otherHalves() {
        CHECKS.sentence("one that is set makes U of the other half of what was J there");
        for (int from : new int[] {0, 13, 29, 46, 60}) {
            for (String layout : layouts(4)) {
                for (int k = 0; k < 3; k++) {
                    for (int at = 0; lastOf(k, at) < 4; at++) {
                        List<Integer> code = new ArrayList<>();
                        setAll(code, layout, from);
                        code.add(PUTS[k]);
                        code.add(STORES[k]);
                        code.add(from + at);
                        int behind = code.size();
                        code.add(177);
                        ClassMaker maker = new ClassMaker();
                        maker.code("()V", 2, 64, row(code));
                        ShippedClass x = Checks.fed(maker.make());
                        CHECKS.due("audit", x.audit(), 0);
                        dueLocals(KINDS.charAt(k) + " at " + at + " of " + layout, x, behind, from, afterStore(layout, k, at));
                    }
                }
            }
        }
    }

    private static String meet(String one, String other) {
        StringBuilder all = new StringBuilder();
        for (int i = 0; i < one.length(); i++) {
            all.append(one.charAt(i) == other.charAt(i) ? one.charAt(i) : 'U');
        }
        for (int i = 0; i < all.length(); i++) {
            if (all.charAt(i) == 'J' && (i + 1 == all.length() || all.charAt(i + 1) != 'H')) {
                all.setCharAt(i, 'U');
            }
            if (all.charAt(i) == 'H' && (i == 0 || all.charAt(i - 1) != 'J')) {
                all.setCharAt(i, 'U');
            }
        }
        return all.toString();
    }

    /** 0 aconst, 1 ifnull to the other way; one way, goto; the other way; where they meet: return. */
    private static void dueMeeting(String one, String other, int from) {
        List<Integer> first = new ArrayList<>();
        setAll(first, one, from);
        List<Integer> second = new ArrayList<>();
        setAll(second, other, from);
        List<Integer> code = new ArrayList<>(List.of(1, 198, 0, 3 + first.size() + 3));
        code.addAll(first);
        code.addAll(List.of(167, 0, 3 + second.size()));
        code.addAll(second);
        int meeting = code.size();
        code.add(177);
        ClassMaker maker = new ClassMaker();
        maker.code("()V", 2, 64, row(code));
        ShippedClass x = Checks.fed(maker.make());
        CHECKS.due("audit", x.audit(), 0);
        dueLocals(one + " and " + other, x, meeting, from, meet(one, other));
    }

    private static void differingBecomeU() {
        CHECKS.sentence("LOCALS that differ become U, and J with a U for its H, and H without its J");
        for (int from : new int[] {0, 14, 15, 31, 47, 61}) {
            for (String one : layouts(3)) {
                for (String other : layouts(3)) {
                    dueMeeting(one, other, from);
                }
            }
        }
        for (String one : layouts(4)) {
            for (String other : new String[] {"JHJH", "UJHU", "IJHA", "JHIU", "AAJH", "UUUU"}) {
                dueMeeting(one, other, 0);
                dueMeeting(other, one, 29);
            }
        }
    }

    private static void differingAtEveryNumber() {
        CHECKS.sentence("LOCALS that differ become U (each of 64)");
        for (int i = 0; i < 64; i++) {
            dueMeeting("I", "A", i);
            dueMeeting("I", "U", i);
            dueMeeting("U", "A", i);
            dueMeeting("A", "A", i);
            if (i < 63) {
                dueMeeting("JH", "JH", i);
                dueMeeting("JH", "UI", i);
                dueMeeting("AU", "JH", i);
            }
        }
    }

    private static void changesGoOn() {
        CHECKS.sentence("(of those whose FRAME is new or has changed since it was gone through)");
        for (int i = 0; i < 64; i++) {
            // 0 iconst, 1 istore i, 3 nop, 4 nop, 5 aconst, 6 astore i, 8 goto 3: 3, 4 and 5 change behind one another.
            ClassMaker maker = new ClassMaker();
            maker.code("()V", 1, 64, 3, 54, i, 0, 0, 1, 58, i, 167, 255, 251);
            ShippedClass x = Checks.fed(maker.make());
            CHECKS.dueFault("LOCAL " + i, x, 0, ShippedClass.NONE);
            CHECKS.due("before the loop", x.kind(0, 1, true, i), 0);
            for (int at : new int[] {3, 4, 5, 6}) {
                CHECKS.due("in the loop at " + at, x.kind(0, at, true, i), 0);
            }
            CHECKS.due("at its end", x.kind(0, 8, true, i), 4);
            // The same, but 3 is iload i, which is right only before the change.
            due("needed at 3", "()V", 64, KIND, 3, 3, 54, i, 21, i, 87, 1, 58, i, 167, 255, 250);
            due("set again at 3", "()V", 64, 0, 0, 3, 54, i, 3, 54, i, 21, i, 87, 1, 58, i, 167, 255, 247);
        }
    }
}
