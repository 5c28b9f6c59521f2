import java.util.ArrayList;
import java.util.List;

/**
 * "A call that throws changes nothing; where it lists more than one exception, the first one wins."
 * Each refused call is made on one of two objects with the same past; then both must answer alike for ever.
 */
public final class RefusedTest {
    private static final Checks CHECKS = new Checks();
    private static final Class<IllegalArgumentException> ARGUMENT = IllegalArgumentException.class;
    private static final Class<IllegalStateException> STATE = IllegalStateException.class;
    private static final Class<IndexOutOfBoundsException> INDEX = IndexOutOfBoundsException.class;
    private static final int LOWEST = Integer.MIN_VALUE;
    private static final int HIGHEST = Integer.MAX_VALUE;
    private static final int PARTS = 3;

    private interface Call {
        long on(ShippedClass x);
    }

    /** What objects have gone through before a call of them is refused. */
    private enum Past {
        NEW, FED, BAD, FULL, GOOD, GOOD_THEN_BAD;

        boolean isGood() {
            return this == FULL || this == GOOD || this == GOOD_THEN_BAD;
        }
    }

    private RefusedTest() {
    }

    public static void main(String[] args) {
        for (Past past : Past.values()) {
            feed(past);
            put(past);
            cut(past);
            rule(past);
            limit(past);
            count(past);
            text(past);
            depthAndKind(past);
        }
        thoseThatListNone();
        CHECKS.end();
    }

    private static ClassMaker small() {
        ClassMaker maker = new ClassMaker();
        maker.implementing(maker.classOf("Face"));
        maker.field(0, "f", "I");
        // 0 iload_0, 1 ifeq 5, 4 nop, 5 lload_1, 6 lstore_1, 7 return
        maker.code("(IJ)V", 2, 4, 26, 153, 0, 4, 0, 31, 64, 177);
        return maker;
    }

    /** Right only with all twelve texts as they were told, and 600 bytes long. */
    private static byte[] large() {
        ClassMaker maker = small();
        maker.self = maker.classOf("Q");
        for (int k = 0; k < 6; k++) {
            maker.fieldAt(maker.classOf((char) ('a' + k) + "/X"), maker.pairOf("f", "I"));
        }
        int rest = 600 - maker.make().length - 6;
        maker.attributes.add(ClassMaker.attribute(1, new int[rest]));
        return maker.make();
    }

    private static ShippedClass with(Past past) {
        ShippedClass x = new ShippedClass();
        if (past == Past.FULL) {
            for (int k = 0; k < 6; k++) {
                Checks.feed(x, ClassMaker.letters((char) ('a' + k) + "/"));
                x.rule(true, 2);
                Checks.feed(x, ClassMaker.letters("P" + (char) ('a' + k)));
                x.rule(false, 2);
            }
            x.limit(0, 1);
            x.limit(1, 8);
            Checks.feed(x, large());
            CHECKS.due("the past of FULL", x.audit(), 0);
        } else if (past != Past.NEW) {
            Checks.feed(x, small().make());
        }
        if (past == Past.GOOD || past == Past.GOOD_THEN_BAD) {
            CHECKS.due("the past of " + past, x.audit(), 0);
        }
        if (past == Past.GOOD_THEN_BAD || past == Past.BAD) {
            x.put(7, 66);
            CHECKS.due("the past of " + past, x.audit(), ShippedClass.VERSION);
        }
        return x;
    }

    private static long answer(ShippedClass x, Call call) {
        try {
            return call.on(x);
        } catch (IllegalStateException e) {
            return -1001;
        } catch (IndexOutOfBoundsException e) {
            return -1002;
        } catch (IllegalArgumentException e) {
            return -1003;
        }
    }

    /** All that can be asked, in parts, for an object has 512 calls only. */
    private static List<Long> answers(ShippedClass x, int part) {
        List<Long> all = new ArrayList<>();
        if (part > 0) {
            for (int i = 0; i < 300; i++) {
                int place = (part - 1) * 300 + i;
                all.add(answer(x, y -> y.put(place, 255)));
            }
            return all;
        }
        all.add(answer(x, ShippedClass::place));
        for (int i = 0; i < 7; i++) {
            int what = i;
            all.add(answer(x, y -> y.count(what)));
            all.add(answer(x, y -> y.text(what, 0, 0)));
            all.add(answer(x, y -> y.depth(0, what)));
            all.add(answer(x, y -> y.kind(0, what, false, 1)));
            all.add(answer(x, y -> y.kind(0, 7, true, what)));
        }
        all.add(answer(x, y -> y.feed(0, 0, 0, 0, 0)));
        all.add(answer(x, ShippedClass::audit));
        all.add(answer(x, ShippedClass::place));
        all.add(answer(x, y -> y.count(0)));
        all.add(answer(x, y -> y.limit(0, 2)));
        all.add(answer(x, y -> y.limit(1, 9)));
        all.add(answer(x, y -> y.cut(0)));
        all.add(answer(x, y -> y.feed(2, 0x41414141, 0, 0, 0)));
        all.add(answer(x, y -> y.rule(true, 1)));
        all.add(answer(x, y -> y.rule(false, 1)));
        return all;
    }

    private static void refused(Past past, String what, Class<? extends RuntimeException> want, Call call) {
        for (int part = 0; part < PARTS; part++) {
            ShippedClass x = with(past);
            List<Long> due = answers(with(past), part);
            CHECKS.dueThrow(past + ": " + what, () -> (int) call.on(x), want);
            CHECKS.due(past + ": nothing has changed after " + what, answers(x, part).equals(due) ? 1 : 0, 1);
        }
    }

    private static int sizeOf(Past past) {
        return past == Past.NEW ? 0 : past == Past.FULL ? 600 : small().make().length;
    }

    private static void feed(Past past) {
        CHECKS.sentence("feed ... IllegalArgument: many is not 0 .. 16. IllegalState: they would be more than 600");
        for (int many : new int[] {LOWEST, -1, 17, HIGHEST}) {
            refused(past, "feed of " + many, ARGUMENT, x -> x.feed(many, -1, -1, -1, -1));
        }
        if (past == Past.FULL) {
            refused(past, "feed of 1", STATE, x -> x.feed(1, -1, -1, -1, -1));
            refused(past, "feed of 16", STATE, x -> x.feed(16, -1, -1, -1, -1));
        }
    }

    private static void put(Past past) {
        CHECKS.sentence("put ... IndexOutOfBounds: there is none at that PLACE. IllegalArgument: it is not 0 .. 255");
        for (int place : new int[] {LOWEST, -1, sizeOf(past), sizeOf(past) + 1, HIGHEST}) {
            for (int value : new int[] {0, 255, -1, 256, LOWEST, HIGHEST}) {
                refused(past, "put at " + place + " of " + value, INDEX, x -> x.put(place, value));
            }
        }
        if (past != Past.NEW) {
            for (int value : new int[] {-1, 256, LOWEST, HIGHEST}) {
                refused(past, "put at the first of " + value, ARGUMENT, x -> x.put(0, value));
                refused(past, "put at the last of " + value, ARGUMENT, x -> x.put(sizeOf(past) - 1, value));
            }
        }
    }

    private static void cut(Past past) {
        CHECKS.sentence("cut ... IllegalArgument: n is below 0, or there are not so many");
        for (int n : new int[] {LOWEST, -1, sizeOf(past) + 1, HIGHEST}) {
            refused(past, "cut to " + n, ARGUMENT, x -> x.cut(n));
        }
    }

    private static void rule(Past past) {
        CHECKS.sentence("rule ... IllegalArgument: n is not 1 .. 40, there are not so many, or one of them is not "
                + "33 .. 126. IllegalState: there are 6 of that sort");
        for (int sort = 0; sort < 2; sort++) {
            boolean isAllowed = sort == 1;
            for (int n : new int[] {LOWEST, -1, 0, 41, HIGHEST}) {
                refused(past, "rule of " + n, ARGUMENT, x -> x.rule(isAllowed, n));
            }
            // The last bytes of a class file are 0, so that with six texts two exceptions are due.
            refused(past, "rule of 1, which is no letter or not there", ARGUMENT, x -> x.rule(isAllowed, 1));
            refused(past, "rule of 40", ARGUMENT, x -> x.rule(isAllowed, 40));
            if (past == Past.FULL) {
                refusedBehindLetters(isAllowed);
            }
        }
    }

    /** Here the texts are six, and the last bytes are letters: only the IllegalState is due. */
    private static void refusedBehindLetters(boolean isAllowed) {
        ShippedClass x = with(Past.FULL);
        ShippedClass y = with(Past.FULL);
        for (int at = 590; at < 600; at++) {
            x.put(at, 'z');
            y.put(at, 'z');
        }
        for (int n = 1; n <= 10; n++) {
            int many = n;
            CHECKS.dueThrow("a seventh text of " + n, () -> x.rule(isAllowed, many), STATE);
        }
        CHECKS.dueThrow("a seventh text of 11, of which one is no letter", () -> x.rule(isAllowed, 11), ARGUMENT);
        CHECKS.due("nothing has changed", answers(x, 0).equals(answers(y, 0)) ? 1 : 0, 1);
    }

    private static void limit(Past past) {
        CHECKS.sentence("limit ... IllegalArgument: another what, n is not 0 .. 600");
        for (int what : new int[] {LOWEST, -1, 0, 1, 2, HIGHEST}) {
            for (int n : new int[] {LOWEST, -1, 0, 600, 601, HIGHEST}) {
                if (what < 0 || what > 1 || n < 0 || n > 600) {
                    refused(past, "limit " + what + " to " + n, ARGUMENT, x -> x.limit(what, n));
                }
            }
        }
    }

    private static void count(Past past) {
        CHECKS.sentence("count ... IllegalState: there was none. IllegalArgument: another what");
        for (int what : new int[] {LOWEST, -1, 0, 6, 7, HIGHEST}) {
            boolean isThere = what >= 0 && what <= 6;
            if (!past.isGood() || !isThere) {
                refused(past, "count of " + what, past.isGood() ? ARGUMENT : STATE, x -> x.count(what));
            }
        }
    }

    private static void text(Past past) {
        CHECKS.sentence("text ... IllegalState: there was none. IllegalArgument: another what");
        for (int what : new int[] {LOWEST, -1, 0, 6, 7, HIGHEST}) {
            boolean isThere = what >= 0 && what <= 6;
            for (int k : new int[] {LOWEST, -1, 0, HIGHEST}) {
                if (!past.isGood() || !isThere) {
                    refused(past, "text " + what, past.isGood() ? ARGUMENT : STATE, x -> x.text(what, k, k));
                }
            }
        }
    }

    private static void depthAndKind(Past past) {
        CHECKS.sentence("depth, kind ... IllegalState: there was none");
        for (int i : new int[] {LOWEST, -1, 0, 1, HIGHEST}) {
            if (!past.isGood()) {
                refused(past, "depth " + i, STATE, x -> x.depth(i, i));
                refused(past, "kind of the stack " + i, STATE, x -> x.kind(i, i, false, i));
                refused(past, "kind of a LOCAL " + i, STATE, x -> x.kind(0, 0, true, i));
            } else {
                ShippedClass x = with(past);
                int deep = i == 0 ? 0 : i == 1 ? 1 : ShippedClass.NONE;
                CHECKS.due("depth throws nothing then", x.depth(0, i), deep);
                CHECKS.due("nor of another METHOD", x.depth(i == 0 ? 1 : i, i), ShippedClass.NONE);
                CHECKS.due("nor does kind", x.kind(0, 0, true, i), i == 0 ? 1 : i == 1 ? 2 : ShippedClass.NONE);
            }
        }
    }

    private static void thoseThatListNone() {
        CHECKS.sentence("int audit(); int place()");
        for (Past past : Past.values()) {
            ShippedClass x = with(past);
            int fault = past == Past.NEW ? ShippedClass.SHORT
                    : past == Past.BAD || past == Past.GOOD_THEN_BAD ? ShippedClass.VERSION : 0;
            int at = fault == 0 ? ShippedClass.NONE : past == Past.NEW ? 0 : 6;
            CHECKS.dueFault("with the past of " + past, x, fault, at);
            CHECKS.dueFault("and again", x, fault, at);
        }
    }
}
