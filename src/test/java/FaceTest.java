import java.lang.reflect.Constructor;
import java.lang.reflect.Field;
import java.lang.reflect.Method;
import java.lang.reflect.Modifier;
import java.util.Arrays;
import java.util.TreeSet;

/** Promises 1 to 6 and 8: the calls that hold the bytes and the policy, and the face itself. */
public final class FaceTest {
    private static final Checks CHECKS = new Checks();
    private static final Class<IllegalArgumentException> ARGUMENT = IllegalArgumentException.class;
    private static final Class<IllegalStateException> STATE = IllegalStateException.class;
    private static final Class<IndexOutOfBoundsException> INDEX = IndexOutOfBoundsException.class;

    private FaceTest() {
    }

    public static void main(String[] args) {
        newObject();
        limitsOfANewObject();
        feed();
        feedEdges();
        put();
        cut();
        rule();
        ruleEdges();
        limit();
        place();
        onlyTheFaceIsOpen();
        CHECKS.end();
    }

    private static void newObject() {
        ShippedClass x = new ShippedClass();
        CHECKS.due("bytes of a new object", x.feed(0, 1, 2, 3, 4), 0);
        CHECKS.due("place of a new object", x.place(), ShippedClass.NONE);
        CHECKS.due("METHODS of a new object", x.limit(0, 1), 16);
        CHECKS.due("bytes of instructions of a new object", x.limit(1, 1), 200);
        CHECKS.due("cut of a new object", x.cut(0), 0);
        CHECKS.dueThrow("count of a new object", () -> x.count(0), STATE);
        CHECKS.dueThrow("text of a new object", () -> x.text(0, 0, 0), STATE);
        CHECKS.dueThrow("depth of a new object", () -> x.depth(0, 0), STATE);
        CHECKS.dueThrow("kind of a new object", () -> x.kind(0, 0, true, 0), STATE);
        CHECKS.dueThrow("put on a new object", () -> x.put(0, 0), INDEX);
        CHECKS.dueThrow("rule of a new object", () -> x.rule(true, 1), ARGUMENT);
    }

    private static void limitsOfANewObject() {
        for (int many = 15; many <= 17; many++) {
            ClassMaker maker = new ClassMaker();
            int type = maker.text("()V");
            for (int i = 0; i < many; i++) {
                maker.member(maker.methods, ClassMaker.ABSTRACT, maker.text("m" + (char) ('a' + i)), type);
            }
            byte[] bytes = maker.make();
            CHECKS.dueFault(many + " METHODS", bytes, many > 16 ? ShippedClass.LIMIT : 0,
                    many > 16 ? maker.methodsAt : ShippedClass.NONE);
        }
        for (int many = 199; many <= 201; many++) {
            int[] row = new int[many];
            row[many - 1] = 177;
            ClassMaker maker = new ClassMaker();
            ClassMaker.Member m = maker.code("()V", 0, 0, row);
            byte[] bytes = maker.make();
            CHECKS.dueFault(many + " bytes of instructions", bytes, many > 200 ? ShippedClass.LIMIT : 0,
                    many > 200 ? m.at : ShippedClass.NONE);
        }
    }

    private static void feed() {
        ShippedClass x = new ShippedClass();
        int many = 0;
        for (int n = 0; n <= 16; n++) {
            many += n;
            CHECKS.due("feed of " + n, x.feed(n, 0x01028304, 0x05060708, 0x090A0B0C, 0x0D0E0FFF), many);
        }
        int at = 0;
        int[] due = {1, 2, 0x83, 4, 5, 6, 7, 8, 9, 10, 11, 12, 13, 14, 15, 255};
        for (int n = 0; n <= 16; n++) {
            for (int i = 0; i < n; i++) {
                CHECKS.due("byte " + i + " of " + n, x.put(at, 0), due[i]);
                at++;
            }
        }
    }

    private static void feedEdges() {
        ShippedClass x = new ShippedClass();
        CHECKS.dueThrow("feed of -1", () -> x.feed(-1, 0, 0, 0, 0), ARGUMENT);
        CHECKS.dueThrow("feed of 17", () -> x.feed(17, 0, 0, 0, 0), ARGUMENT);
        CHECKS.dueThrow("feed of the least", () -> x.feed(Integer.MIN_VALUE, 0, 0, 0, 0), ARGUMENT);
        CHECKS.dueThrow("feed of the most", () -> x.feed(Integer.MAX_VALUE, 0, 0, 0, 0), ARGUMENT);
        for (int i = 1; i <= 37; i++) {
            x.feed(16, i, i, i, i);
        }
        CHECKS.dueThrow("feed beyond 600", () -> x.feed(9, 0, 0, 0, 0), STATE);
        CHECKS.dueThrow("feed of 17 to 592", () -> x.feed(17, 0, 0, 0, 0), ARGUMENT);
        CHECKS.due("feed up to 600", x.feed(8, -1, -1, 0, 0), 600);
        CHECKS.due("feed of none to 600", x.feed(0, 0, 0, 0, 0), 600);
        CHECKS.dueThrow("feed of 1 to 600", () -> x.feed(1, 0, 0, 0, 0), STATE);
        CHECKS.due("the last of 600", x.put(599, 7), 255);
        CHECKS.dueThrow("behind 600", () -> x.put(600, 7), INDEX);
    }

    private static void put() {
        ShippedClass x = new ShippedClass();
        x.feed(3, 0x0A0BFF00, 0, 0, 0);
        CHECKS.due("put", x.put(2, 128), 255);
        CHECKS.due("put again", x.put(2, 0), 128);
        CHECKS.due("put 255", x.put(0, 255), 10);
        CHECKS.dueThrow("put at -1", () -> x.put(-1, 0), INDEX);
        CHECKS.dueThrow("put behind all", () -> x.put(3, 0), INDEX);
        CHECKS.dueThrow("put of 256", () -> x.put(2, 256), ARGUMENT);
        CHECKS.dueThrow("put of -1", () -> x.put(2, -1), ARGUMENT);
        CHECKS.dueThrow("put with both wrong", () -> x.put(3, 256), INDEX);
        CHECKS.due("what a throw leaves", x.put(2, 1), 0);
        x.cut(2);
        CHECKS.dueThrow("put at what is cut", () -> x.put(2, 0), INDEX);
    }

    private static void cut() {
        ShippedClass x = new ShippedClass();
        x.feed(16, 0x01020304, 0x05060708, 0x090A0B0C, 0x0D0E0F10);
        CHECKS.due("cut of none", x.cut(16), 0);
        CHECKS.dueThrow("cut of more", () -> x.cut(17), ARGUMENT);
        CHECKS.dueThrow("cut of -1", () -> x.cut(-1), ARGUMENT);
        CHECKS.due("cut", x.cut(5), 11);
        CHECKS.dueThrow("cut of what is gone", () -> x.cut(6), ARGUMENT);
        CHECKS.due("feed behind a cut", x.feed(1, 0x77000000, 0, 0, 0), 6);
        CHECKS.due("what stays", x.put(4, 0), 5);
        CHECKS.due("what comes behind", x.put(5, 0), 0x77);
        CHECKS.due("cut of all", x.cut(0), 6);
    }

    private static void feedText(ShippedClass x, String text) {
        Checks.feed(x, ClassMaker.letters(text));
    }

    private static void rule() {
        ShippedClass x = new ShippedClass();
        feedText(x, "xxjava/");
        CHECKS.due("the first PROTECTED", x.rule(false, 5), 1);
        CHECKS.due("they are gone", x.cut(2), 0);
        feedText(x, "java/");
        CHECKS.due("the first ALLOWED", x.rule(true, 5), 1);
        for (int i = 2; i <= 6; i++) {
            feedText(x, "java/");
            CHECKS.due("the same again", x.rule(true, 5), i);
        }
        feedText(x, "java/");
        CHECKS.dueThrow("the seventh", () -> x.rule(true, 5), STATE);
        CHECKS.dueThrow("the seventh with a wrong n", () -> x.rule(true, 0), ARGUMENT);
        CHECKS.due("a throw leaves the bytes", x.cut(7), 0);
        CHECKS.due("the other sort has room", x.rule(false, 5), 2);
    }

    private static void ruleEdges() {
        ShippedClass x = new ShippedClass();
        feedText(x, "a".repeat(41));
        CHECKS.dueThrow("n of 41", () -> x.rule(true, 41), ARGUMENT);
        CHECKS.dueThrow("n of 0", () -> x.rule(true, 0), ARGUMENT);
        CHECKS.dueThrow("n of -1", () -> x.rule(true, -1), ARGUMENT);
        CHECKS.due("n of 40", x.rule(true, 40), 1);
        CHECKS.dueThrow("more than there are", () -> x.rule(true, 2), ARGUMENT);
        x.put(0, 32);
        CHECKS.dueThrow("a space", () -> x.rule(true, 1), ARGUMENT);
        x.put(0, 127);
        CHECKS.dueThrow("127", () -> x.rule(true, 1), ARGUMENT);
        x.put(0, 161);
        CHECKS.dueThrow("161", () -> x.rule(true, 1), ARGUMENT);
        x.put(0, 33);
        CHECKS.due("33", x.rule(true, 1), 2);
        x.feed(3, 0x207E7E00, 0, 0, 0);
        CHECKS.dueThrow("one of three", () -> x.rule(true, 3), ARGUMENT);
        CHECKS.due("126", x.rule(true, 2), 3);
        CHECKS.due("what is before stays", x.put(0, 1), 32);
    }

    private static void limit() {
        ShippedClass x = new ShippedClass();
        CHECKS.due("METHODS to 600", x.limit(0, 600), 16);
        CHECKS.due("METHODS to 0", x.limit(0, 0), 600);
        CHECKS.due("bytes to 0", x.limit(1, 0), 200);
        CHECKS.due("bytes to 600", x.limit(1, 600), 0);
        CHECKS.dueThrow("limit of 601", () -> x.limit(0, 601), ARGUMENT);
        CHECKS.dueThrow("limit of -1", () -> x.limit(1, -1), ARGUMENT);
        CHECKS.dueThrow("limit 2", () -> x.limit(2, 1), ARGUMENT);
        CHECKS.dueThrow("limit -1", () -> x.limit(-1, 1), ARGUMENT);
        CHECKS.due("METHODS are kept", x.limit(0, 1), 0);
        CHECKS.due("bytes are kept", x.limit(1, 1), 600);
    }

    private static void place() {
        ClassMaker maker = new ClassMaker();
        ShippedClass x = Checks.fed(maker.make());
        CHECKS.due("place before an audit", x.place(), ShippedClass.NONE);
        CHECKS.dueFault("a right class", x, 0, ShippedClass.NONE);
        x.put(7, 1);
        CHECKS.due("place before the next audit", x.place(), ShippedClass.NONE);
        CHECKS.dueFault("a wrong version", x, ShippedClass.VERSION, 6);
        x.put(7, 61);
        CHECKS.due("place of the last audit", x.place(), 6);
        CHECKS.dueFault("right again", x, 0, ShippedClass.NONE);
    }

    private static void onlyTheFaceIsOpen() {
        TreeSet<String> open = new TreeSet<>();
        for (Method method : ShippedClass.class.getDeclaredMethods()) {
            if (!Modifier.isPrivate(method.getModifiers())) {
                open.add(method.getName() + Arrays.toString(method.getParameterTypes()));
            }
        }
        for (Field field : ShippedClass.class.getDeclaredFields()) {
            if (!Modifier.isPrivate(field.getModifiers())) {
                open.add(field.getName());
            }
        }
        for (Constructor<?> constructor : ShippedClass.class.getDeclaredConstructors()) {
            open.add("new" + constructor.getParameterCount());
        }
        CHECKS.due("open members: " + open, open.size(), 11 + 26 + 1);
        CHECKS.due("a final class", ShippedClass.class.getModifiers(), Modifier.PUBLIC | Modifier.FINAL);
    }
}
