import java.util.ArrayList;
import java.util.Arrays;
import java.util.List;

/** "audit: The BYTES are looked through": nothing of one class file is left when the next one comes. */
public final class AgainTest {
    private static final Checks CHECKS = new Checks();

    private AgainTest() {
    }

    public static void main(String[] args) {
        CHECKS.sentence("The BYTES are looked through: 0, or the FAULT");
        List<byte[]> files = files();
        List<List<Long>> due = new ArrayList<>();
        for (byte[] bytes : files) {
            due.add(answers(Checks.fed(bytes)));
        }
        for (int a = 0; a < files.size(); a++) {
            for (int b = 0; b < files.size(); b++) {
                for (int c = 0; c < files.size(); c++) {
                    third(a, b, c, files, due);
                }
            }
        }
        CHECKS.end();
    }

    private static void third(int a, int b, int c, List<byte[]> files, List<List<Long>> due) {
        ShippedClass x = Checks.fed(files.get(a));
        x.audit();
        next(x, files.get(b));
        x.audit();
        next(x, files.get(c));
        boolean isGood = due.get(c).size() > 2;
        List<Long> got = isGood ? answers(x) : List.of((long) x.audit(), (long) x.place());
        CHECKS.due("file " + c + " behind " + a + " and " + b, got.equals(due.get(c)) ? 1 : 0, 1);
    }

    private static void next(ShippedClass x, byte[] bytes) {
        x.cut(0);
        Checks.feed(x, bytes);
    }

    /** The fault and its place, and of a right file all that can be asked. */
    private static List<Long> answers(ShippedClass x) {
        List<Long> all = new ArrayList<>();
        all.add((long) x.audit());
        all.add((long) x.place());
        if (all.get(0) != 0) {
            return all;
        }
        for (int i = 0; i < 7; i++) {
            all.add((long) x.count(i));
            all.add((long) x.text(i, 0, 0));
            all.add((long) x.text(i, 2, 0));
        }
        for (int method = 0; method < 4; method++) {
            for (int at = 0; at < 12; at++) {
                all.add((long) x.depth(method, at));
                all.add((long) x.kind(method, at, true, 1));
                all.add((long) x.kind(method, at, false, 0));
            }
        }
        return all;
    }

    private static List<byte[]> files() {
        List<byte[]> all = new ArrayList<>();
        all.add(new ClassMaker().make());
        all.add(manyConstants().make());
        all.add(toConstants(7).make());
        all.add(toConstants(12).make());
        all.add(manyMembers().make());
        all.add(nops().make());
        all.add(code("()V", 2, 4, 17, 0, 0, 87, 167, 0, 3, 177).make());
        all.add(code("()V", 2, 4, 167, 0, 4, 17, 0, 0, 87, 177).make());
        all.add(code("()V", 2, 4, 9, 63, 1, 77, 167, 0, 3, 177).make());
        all.add(code("()V", 2, 4, 30, 177).make());
        // Several wait when the first of them is wrong.
        all.add(code("(I)V", 2, 4, 26, 153, 0, 5, 87, 177, 26, 153, 0, 3, 177).make());
        all.add(code("(I)V", 2, 4, 177).make());
        all.add(code("(I)V", 2, 4, 17, 0, 0, 17, 0, 0, 88, 177).make());
        all.add(twoMethods().make());
        for (int i = 0; i < 2; i++) {
            all.add(threeMembers(i == 1, false).make());
            all.add(threeMembers(i == 1, true).make());
        }
        all.add(new byte[0]);
        all.add(new byte[600]);
        all.add(Arrays.copyOf(manyMembers().make(), 200));
        return all;
    }

    private static ClassMaker code(String type, int stack, int locals, int... row) {
        ClassMaker maker = new ClassMaker();
        maker.code(type, stack, locals, row);
        return maker;
    }

    private static ClassMaker manyConstants() {
        ClassMaker maker = new ClassMaker();
        for (int k = 0; k < 30; k++) {
            maker.text("t");
        }
        maker.code("()V", 1, 1, 177);
        return maker;
    }

    /** Tells a TEXT that may have been there before, but is not now. */
    private static ClassMaker toConstants(int number) {
        ClassMaker maker = new ClassMaker();
        maker.stringAt(number);
        return maker;
    }

    private static ClassMaker manyMembers() {
        ClassMaker maker = new ClassMaker();
        maker.implementing(maker.self).implementing(maker.parent).implementing(maker.self);
        for (int i = 0; i < 5; i++) {
            maker.field(0, "f" + i, "J");
            maker.method(8, "m" + i, "()V", 3, 4, 3, 9, 88, 87, 177);
        }
        return maker;
    }

    /** Or two of them, and numbers of TEXTS where the third one was. */
    private static ClassMaker threeMembers(boolean isMethod, boolean isOneLess) {
        ClassMaker maker = new ClassMaker();
        for (int i = 0; i < 3; i++) {
            if (isMethod) {
                maker.method(ClassMaker.ABSTRACT, "m" + i, "()V");
            } else {
                maker.field(0, "f" + i, "I");
            }
        }
        if (isOneLess) {
            (isMethod ? maker.methods : maker.fields).remove(2);
            maker.attributes.add(ClassMaker.attribute(1, 1, 2, 3));
        }
        return maker;
    }

    private static ClassMaker nops() {
        return code("(J[I)V", 1, 4, 0, 0, 0, 0, 0, 0, 0, 0, 0, 0, 0, 0, 0, 177);
    }

    /** The LOCALS of the second are not those of the first. */
    private static ClassMaker twoMethods() {
        ClassMaker maker = new ClassMaker();
        maker.code("(IJ[I)V", 2, 4, 177);
        maker.code("()V", 2, 4, 0, 177);
        return maker;
    }
}
