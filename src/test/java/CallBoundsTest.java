import java.util.Arrays;

/** Each sentence of promises 1 to 6 and 8 that names a bound, and the bound of calls: at it, one below, one above. */
public final class CallBoundsTest {
    private static final Checks CHECKS = new Checks();
    private static final Class<IllegalArgumentException> ARGUMENT = IllegalArgumentException.class;
    private static final Class<IllegalStateException> STATE = IllegalStateException.class;
    private static final Class<IndexOutOfBoundsException> INDEX = IndexOutOfBoundsException.class;
    private static final int LOWEST = Integer.MIN_VALUE;
    private static final int HIGHEST = Integer.MAX_VALUE;
    private static final int MOST_CALLS = 512;

    private CallBoundsTest() {
    }

    public static void main(String[] args) {
        atMost600();
        classesOf600();
        highestFirst();
        newObjectHasNothing();
        newObjectHasNoTexts();
        newObjectLimits();
        feedMany();
        feedBeyond();
        putPlaces();
        putValues();
        cutBounds();
        cutBytesAreGone();
        ruleLengths();
        ruleLetters();
        ruleSix();
        ruleBytesAreGone();
        limitWhat();
        limitBounds();
        placeOfNone();
        calls512();
        CHECKS.end();
    }

    private static ShippedClass ofSize(int size) {
        return Checks.fed(new byte[size]);
    }

    private static int sizeOf(ShippedClass x) {
        return x.feed(0, -1, -1, -1, -1);
    }

    private static void atMost600() {
        CHECKS.sentence("BYTES are at most 600");
        for (int many = 1; many <= 16; many++) {
            int n = many;
            CHECKS.due("up to 599 by " + many, ofSize(599 - many).feed(many, 0, 0, 0, 0), 599);
            CHECKS.due("up to 600 by " + many, ofSize(600 - many).feed(many, 0, 0, 0, 0), 600);
            ShippedClass x = ofSize(601 - many);
            CHECKS.dueThrow("up to 601 by " + many, () -> x.feed(n, 0, 0, 0, 0), STATE);
            CHECKS.due("no byte of them is there", sizeOf(x), 601 - many);
        }
        CHECKS.due("none to 600", ofSize(600).feed(0, 0, 0, 0, 0), 600);
        ShippedClass again = ofSize(600);
        again.cut(599);
        CHECKS.due("a cut makes room", again.feed(1, 0, 0, 0, 0), 600);
    }

    private static byte[] classOf(int size) {
        byte[] bare = new ClassMaker().make();
        ClassMaker maker = new ClassMaker();
        maker.attributes.add(ClassMaker.attribute(1, new int[size - bare.length - 6]));
        return maker.make();
    }

    private static void classesOf600() {
        CHECKS.sentence("BYTES are at most 600; a PLACE is a byte's number from 0 on");
        for (int size = 598; size <= 600; size++) {
            byte[] bytes = classOf(size);
            CHECKS.due("its size", bytes.length, size);
            CHECKS.dueNone("a class file of " + size, bytes);
            bytes[0] = 0;
            CHECKS.dueFault("the first PLACE", bytes, ShippedClass.MAGIC, 0);
        }
        byte[] more = Arrays.copyOf(classOf(599), 600);
        CHECKS.dueFault("the last PLACE", more, ShippedClass.MORE, 599);
        ClassMaker maker = new ClassMaker();
        maker.attributes.add(ClassMaker.attribute(1, new int[540]));
        byte[] left = Arrays.copyOf(maker.make(), 600);
        CHECKS.dueFault("the first that is left", left, ShippedClass.MORE, maker.make().length);
    }

    private static void highestFirst() {
        CHECKS.sentence("four in each number, the highest first");
        ShippedClass x = new ShippedClass();
        x.feed(16, 0x00017F80, 0xFFFE8100, 0x80000001, 0xFEDCBA98);
        int[] due = {0, 1, 0x7F, 0x80, 0xFF, 0xFE, 0x81, 0, 0x80, 0, 0, 1, 0xFE, 0xDC, 0xBA, 0x98};
        for (int i = 0; i < due.length; i++) {
            CHECKS.due("byte " + i, x.put(i, 0), due[i]);
        }
    }

    private static void newObjectHasNothing() {
        CHECKS.sentence("No BYTES");
        CHECKS.due("how many", sizeOf(new ShippedClass()), 0);
        CHECKS.due("all that can be cut", new ShippedClass().cut(0), 0);
        CHECKS.dueThrow("one is cut", () -> new ShippedClass().cut(1), ARGUMENT);
        CHECKS.dueThrow("the first", () -> new ShippedClass().put(0, 0), INDEX);
        CHECKS.dueThrow("a text of one", () -> new ShippedClass().rule(true, 1), ARGUMENT);
        CHECKS.dueFault("an audit of none", new ShippedClass(), ShippedClass.SHORT, 0);
    }

    private static void newObjectHasNoTexts() {
        CHECKS.sentence("no texts PROTECTED or ALLOWED");
        for (int sort = 0; sort < 2; sort++) {
            ShippedClass x = new ShippedClass();
            x.feed(1, 'O' << 24, 0, 0, 0);
            CHECKS.due("the first of sort " + sort, x.rule(sort == 1, 1), 1);
        }
        ClassMaker maker = new ClassMaker();
        CHECKS.dueNone("nothing is PROTECTED", maker.make());
        int use = maker.fieldAt(maker.parent, maker.pairOf("f", "I"));
        byte[] bytes = maker.make();
        CHECKS.dueFault("nothing is ALLOWED", bytes, ShippedClass.FORBIDDEN, maker.placeOf(use));
    }

    private static void newObjectLimits() {
        CHECKS.sentence("at most 16 METHODS, 200 bytes of instructions");
        CHECKS.due("METHODS", new ShippedClass().limit(0, 0), 16);
        CHECKS.due("bytes", new ShippedClass().limit(1, 0), 200);
        CHECKS.due("bytes after METHODS are set", afterLimit(0, 5).limit(1, 0), 200);
        CHECKS.due("METHODS after bytes are set", afterLimit(1, 5).limit(0, 0), 16);
    }

    private static ShippedClass afterLimit(int what, int n) {
        ShippedClass x = new ShippedClass();
        x.limit(what, n);
        return x;
    }

    private static void feedMany() {
        CHECKS.sentence("IllegalArgument: many is not 0 .. 16");
        for (int many = 0; many <= 16; many++) {
            CHECKS.due("many " + many, new ShippedClass().feed(many, 0, 0, 0, 0), many);
        }
        for (int many : new int[] {LOWEST, LOWEST + 600, -17, -16, -1, 17, 18, 600, HIGHEST - 1, HIGHEST}) {
            ShippedClass x = ofSize(3);
            CHECKS.dueThrow("many " + many, () -> x.feed(many, 0, 0, 0, 0), ARGUMENT);
            CHECKS.due("after many " + many, sizeOf(x), 3);
            CHECKS.dueThrow("many " + many + " to 600", () -> ofSize(600).feed(many, 0, 0, 0, 0), ARGUMENT);
        }
    }

    private static void feedBeyond() {
        CHECKS.sentence("IllegalState: they would be more than 600");
        for (int size = 584; size <= 600; size++) {
            for (int many = 0; many <= 16; many++) {
                ShippedClass x = ofSize(size);
                int n = many;
                if (size + many > 600) {
                    CHECKS.dueThrow(many + " to " + size, () -> x.feed(n, 0, 0, 0, 0), STATE);
                } else {
                    CHECKS.due(many + " to " + size, x.feed(n, 0, 0, 0, 0), size + many);
                }
            }
        }
    }

    private static void putPlaces() {
        CHECKS.sentence("IndexOutOfBounds: there is none at that PLACE");
        for (int size : new int[] {1, 2, 16, 599, 600}) {
            CHECKS.due("the first of " + size, ofSize(size).put(0, 1), 0);
            CHECKS.due("the last of " + size, ofSize(size).put(size - 1, 1), 0);
            for (int place : new int[] {LOWEST, -600, -1, size, size + 1, 601, HIGHEST}) {
                ShippedClass x = ofSize(size);
                CHECKS.dueThrow("place " + place + " of " + size, () -> x.put(place, 1), INDEX);
                CHECKS.dueThrow("both wrong", () -> x.put(place, 256), INDEX);
                CHECKS.due("the size is kept", sizeOf(x), size);
            }
        }
    }

    private static void putValues() {
        CHECKS.sentence("A BYTE becomes another one: what it was. IllegalArgument: it is not 0 .. 255");
        ShippedClass x = ofSize(3);
        for (int value : new int[] {1, 127, 128, 254, 255, 0}) {
            x.put(1, value);
            CHECKS.due("value " + value, x.put(1, value), value);
        }
        x.put(1, 77);
        for (int value : new int[] {LOWEST, -256, -129, -128, -1, 256, 257, 65535, HIGHEST}) {
            CHECKS.dueThrow("value " + value, () -> x.put(1, value), ARGUMENT);
            CHECKS.due("after value " + value, x.put(1, 77), 77);
        }
        CHECKS.due("the one before", x.put(0, 1), 0);
        CHECKS.due("the one behind", x.put(2, 1), 0);
    }

    private static void cutBounds() {
        CHECKS.sentence("IllegalArgument: n is below 0, or there are not so many");
        for (int size : new int[] {0, 1, 16, 599, 600}) {
            CHECKS.due("all of " + size + " stay", ofSize(size).cut(size), 0);
            CHECKS.due("none of " + size + " stays", ofSize(size).cut(0), size);
            if (size > 0) {
                CHECKS.due("all but one of " + size, ofSize(size).cut(size - 1), 1);
                CHECKS.due("one of " + size, ofSize(size).cut(1), size - 1);
            }
            for (int n : new int[] {LOWEST, -600, -1, size + 1, size + 2, 601, HIGHEST}) {
                ShippedClass x = ofSize(size);
                CHECKS.dueThrow("cut " + n + " of " + size, () -> x.cut(n), ARGUMENT);
                CHECKS.due("the size is kept", sizeOf(x), size);
            }
        }
    }

    private static void cutBytesAreGone() {
        CHECKS.sentence("The first n BYTES alone stay: how many are gone");
        ShippedClass x = new ShippedClass();
        x.feed(16, 0x01020304, 0x05060708, 0x090A0B0C, 0x0D0E0F10);
        CHECKS.due("seven are gone", x.cut(9), 7);
        CHECKS.due("nine stay", sizeOf(x), 9);
        CHECKS.dueThrow("the tenth is gone", () -> x.put(9, 0), INDEX);
        x.feed(2, 0x77880000, 0, 0, 0);
        for (int i = 0; i < 11; i++) {
            CHECKS.due("byte " + i, x.put(i, 0), i < 9 ? i + 1 : i == 9 ? 0x77 : 0x88);
        }
        byte[] bytes = new ClassMaker().make();
        ShippedClass y = Checks.fed(Arrays.copyOf(bytes, bytes.length + 1));
        CHECKS.dueFault("a byte more", y, ShippedClass.MORE, bytes.length);
        y.cut(bytes.length);
        CHECKS.dueFault("cut to the class", y, 0, ShippedClass.NONE);
        y.cut(bytes.length - 1);
        CHECKS.dueFault("cut by one more", y, ShippedClass.SHORT, bytes.length - 2);
    }

    private static ShippedClass ofLetters(int many) {
        return Checks.fed(ClassMaker.letters("a".repeat(many)));
    }

    private static void ruleLengths() {
        CHECKS.sentence("IllegalArgument: n is not 1 .. 40, there are not so many");
        for (int sort = 0; sort < 2; sort++) {
            boolean isAllowed = sort == 1;
            for (int n : new int[] {1, 2, 39, 40}) {
                CHECKS.due(n + " of 600", ofLetters(600).rule(isAllowed, n), 1);
                CHECKS.due(n + " of as many", ofLetters(n).rule(isAllowed, n), 1);
                CHECKS.due(n + " of one more", ofLetters(n + 1).rule(isAllowed, n), 1);
                ShippedClass x = ofLetters(n - 1);
                CHECKS.dueThrow(n + " of one less", () -> x.rule(isAllowed, n), ARGUMENT);
                CHECKS.due("the bytes are kept", sizeOf(x), n - 1);
            }
            for (int n : new int[] {LOWEST, -40, -1, 0, 41, 42, 600, HIGHEST}) {
                ShippedClass x = ofLetters(600);
                CHECKS.dueThrow("n of " + n, () -> x.rule(isAllowed, n), ARGUMENT);
                CHECKS.due("the bytes are kept", sizeOf(x), 600);
                CHECKS.due("there is no text", x.rule(isAllowed, 1), 1);
            }
        }
    }

    private static void ruleLetters() {
        CHECKS.sentence("or one of them is not 33 .. 126");
        for (int letter = 0; letter < 256; letter++) {
            boolean isRight = letter >= 33 && letter <= 126;
            for (int at = 0; at < 5; at++) {
                ShippedClass x = ofLetters(5);
                x.put(at, letter);
                String what = "letter " + letter + " at " + at + " of 5";
                if (isRight || at < 2) {
                    CHECKS.due(what + ", the last 3", x.rule(true, 3), 1);
                } else {
                    CHECKS.dueThrow(what + ", the last 3", () -> x.rule(true, 3), ARGUMENT);
                    CHECKS.due(what + " is kept", x.put(at, 'a'), letter);
                    CHECKS.due(what + " was it alone", x.rule(true, 3), 1);
                }
            }
        }
    }

    private static void ruleSix() {
        CHECKS.sentence("how many texts of that sort there are. IllegalState: there are 6 of that sort");
        for (int first = 0; first < 2; first++) {
            ShippedClass x = ofLetters(60);
            boolean isAllowed = first == 1;
            for (int k = 1; k <= 6; k++) {
                CHECKS.due("text " + k, x.rule(isAllowed, 2), k);
            }
            CHECKS.dueThrow("text 7", () -> x.rule(isAllowed, 2), STATE);
            CHECKS.dueThrow("text 7 again", () -> x.rule(isAllowed, 2), STATE);
            CHECKS.due("its bytes are kept", sizeOf(x), 48);
            for (int k = 1; k <= 6; k++) {
                CHECKS.due("text " + k + " of the other sort", x.rule(!isAllowed, 2), k);
            }
            CHECKS.dueThrow("text 7 of the other sort", () -> x.rule(!isAllowed, 2), STATE);
            CHECKS.dueThrow("text 7 of no letters", () -> x.rule(isAllowed, 0), ARGUMENT);
            CHECKS.dueThrow("text 7 of too many", () -> x.rule(isAllowed, 41), ARGUMENT);
            x.put(35, 32);
            CHECKS.dueThrow("text 7 with a space", () -> x.rule(isAllowed, 1), ARGUMENT);
            x.cut(0);
            CHECKS.dueThrow("text 7 of no bytes", () -> x.rule(isAllowed, 1), ARGUMENT);
        }
    }

    private static void ruleBytesAreGone() {
        CHECKS.sentence("The last n BYTES are a text, ...; they are gone");
        ShippedClass x = Checks.fed(ClassMaker.letters("xyzOwn"));
        CHECKS.due("the last three", x.rule(false, 3), 1);
        CHECKS.due("three stay", sizeOf(x), 3);
        CHECKS.dueThrow("the fourth is gone", () -> x.put(3, 0), INDEX);
        CHECKS.due("the third", x.put(2, 0), 'z');
        CHECKS.due("the first", x.put(0, 0), 'x');
        x.cut(0);
        ClassMaker maker = new ClassMaker();
        Checks.feed(x, maker.make());
        CHECKS.dueFault("the text is Own", x, ShippedClass.PROTECTED, maker.thisAt);
    }

    private static void limitWhat() {
        CHECKS.sentence("IllegalArgument: another what");
        for (int what : new int[] {LOWEST, -2, -1, 2, 3, HIGHEST}) {
            ShippedClass x = new ShippedClass();
            CHECKS.dueThrow("what " + what, () -> x.limit(what, 5), ARGUMENT);
            CHECKS.due("METHODS are kept", x.limit(0, 5), 16);
            CHECKS.due("bytes are kept", x.limit(1, 5), 200);
        }
    }

    private static void limitBounds() {
        CHECKS.sentence("how many it was. IllegalArgument: ... n is not 0 .. 600");
        for (int what = 0; what < 2; what++) {
            int asked = what;
            ShippedClass x = new ShippedClass();
            int old = what == 0 ? 16 : 200;
            for (int n : new int[] {0, 1, 599, 600}) {
                CHECKS.due("limit " + what + " to " + n, x.limit(what, n), old);
                old = n;
                for (int wrong : new int[] {LOWEST, -600, -1, 601, 602, HIGHEST}) {
                    CHECKS.dueThrow("limit " + what + " to " + wrong, () -> x.limit(asked, wrong), ARGUMENT);
                }
            }
            CHECKS.due("limit " + what + " is kept", x.limit(what, 3), 600);
            CHECKS.due("the other is as it was", x.limit(1 - what, 3), what == 0 ? 200 : 16);
        }
    }

    private static void placeOfNone() {
        CHECKS.sentence("NONE if it had none, or there was none");
        ShippedClass x = new ShippedClass();
        CHECKS.due("NONE itself", ShippedClass.NONE, -1);
        CHECKS.due("there was none", x.place(), ShippedClass.NONE);
        byte[] bytes = new ClassMaker().make();
        Checks.feed(x, bytes);
        CHECKS.due("there was none yet", x.place(), ShippedClass.NONE);
        CHECKS.dueFault("it had none", x, 0, ShippedClass.NONE);
        x.feed(1, 0, 0, 0, 0);
        CHECKS.due("it had none, whatever came then", x.place(), ShippedClass.NONE);
        CHECKS.dueFault("it had one", x, ShippedClass.MORE, bytes.length);
        x.cut(0);
        CHECKS.due("it had one, whatever came then", x.place(), bytes.length);
        CHECKS.dueFault("one at 0", x, ShippedClass.SHORT, 0);
        Checks.feed(x, bytes);
        CHECKS.dueFault("none again", x, 0, ShippedClass.NONE);
    }

    private static void calls512() {
        CHECKS.sentence("An object is used for at most 512 calls after it has been made");
        ShippedClass fed = new ShippedClass();
        for (int call = 1; call <= MOST_CALLS; call += 2) {
            CHECKS.due("feed as call " + call, fed.feed(16, call, call, call, call), 16);
            CHECKS.due("cut as call " + (call + 1), fed.cut(0), 16);
        }
        ShippedClass put = ofSize(16);
        for (int call = 2; call <= MOST_CALLS; call++) {
            CHECKS.due("put as call " + call, put.put(call & 15, call & 255), call < 18 ? 0 : call - 16 & 255);
        }
        byte[] bytes = classWithALoop().make();
        int calls = (bytes.length + 15) / 16;
        ShippedClass audited = Checks.fed(bytes);
        while (calls < MOST_CALLS) {
            calls++;
            CHECKS.due("audit as call " + calls, audited.audit(), 0);
        }
        calls = (bytes.length + 15) / 16 + 1;
        ShippedClass asked = Checks.fed(bytes);
        asked.audit();
        while (calls < MOST_CALLS - 3) {
            calls += 4;
            CHECKS.due("count before call " + calls, asked.count(5), 6);
            CHECKS.due("text before call " + calls, asked.text(0, 0, 0), 'O');
            CHECKS.due("depth before call " + calls, asked.depth(0, 2), 0);
            CHECKS.due("kind as call " + calls, asked.kind(0, 2, true, 0), 0);
        }
        ShippedClass refused = new ShippedClass();
        for (int call = 1; call <= MOST_CALLS; call++) {
            CHECKS.dueThrow("a refused call " + call, () -> refused.cut(1), ARGUMENT);
        }
    }

    /** 0 iconst, 1 istore_0, 2 nop, 3 aconst, 4 astore_0, 5 goto 2: what is at 2 changes once more. */
    private static ClassMaker classWithALoop() {
        ClassMaker maker = new ClassMaker();
        maker.code("()V", 1, 1, 3, 59, 0, 1, 75, 167, 255, 253);
        return maker;
    }
}
