import java.util.ArrayList;
import java.util.List;

/**
 * "What is wrong first, in the order of this text, is the FAULT": a class file with all that can be wrong at once, of
 * which one thing after another is mended on the same object; each time the next one is told.
 */
public final class OrderTest {
    private static final Checks CHECKS = new Checks();

    private static final class Step {
        String what;
        int fault;
        int place;
        int at;
        byte[] wrong;
    }

    private final List<Step> steps = new ArrayList<>();
    private final ClassMaker maker = new ClassMaker();
    private byte[] right;
    private int number;
    private int string;
    private int other;
    private int fieldPair;
    private int fieldUse;
    private int initPair;
    private int initUse;
    private int wrongName;
    private int wrongType;
    private int finalize;
    private int shield;
    private ClassMaker.Member field;
    private ClassMaker.Member secondField;
    private ClassMaker.Member first;
    private ClassMaker.Member second;
    private ClassMaker.Member bare;
    /** Those on the object that is mended. */
    private int calls;

    private OrderTest() {
    }

    public static void main(String[] args) {
        CHECKS.sentence("What is wrong first, in the order of this text, is the FAULT, at a PLACE");
        OrderTest reading = new OrderTest();
        reading.makeRight();
        reading.reading();
        reading.climb(true);
        OrderTest linking = new OrderTest();
        linking.makeRight();
        linking.linking();
        linking.policy();
        linking.climb(false);
        OrderTest verifying = new OrderTest();
        verifying.makeRight();
        verifying.verifying();
        verifying.climb(false);
        OrderTest all = new OrderTest();
        all.makeRight();
        all.reading();
        all.linking();
        all.policy();
        all.verifying();
        all.climb(true);
        CHECKS.end();
    }

    private void makeRight() {
        number = maker.intOf(7);
        string = maker.stringAt(maker.text("s"));
        other = maker.classOf("x/Y");
        fieldPair = maker.pairOf("f", "I");
        fieldUse = maker.fieldAt(maker.self, fieldPair);
        initPair = maker.pairOf("<init>", "()V");
        initUse = maker.methodAt(maker.self, initPair);
        wrongName = maker.text("a.b");
        wrongType = maker.text("(V)");
        finalize = maker.text("finalize");
        shield = maker.classOf("Pq");
        maker.implementing(other);
        field = maker.field(0, "f", "I");
        field.attributes.add(ClassMaker.attribute(1));
        field.attributes.add(ClassMaker.attribute(1, 4));
        secondField = maker.field(0, "g", "I");
        // 0 ldc, 2 pop, 3 getstatic, 6 ifeq 13, 9 lconst, 10 lstore_0, 11 nop, 12 return, 13 return, 14 athrow, 15 sipush
        first = maker.code("()V", 2, 2, 18, number, 87, 178, 0, fieldUse, 153, 0, 7, 9, 63, 0, 177, 177, 191, 17, 0, 0);
        first.code.handler(0, 2, 14, 0).handler(2, 3, 14, 2);
        first.code.attributes.add(ClassMaker.attribute(1, 9));
        first.attributes.add(ClassMaker.attribute(3, 5));
        second = maker.method(0, "n", "()V", 1, 1, 0, 177);
        bare = maker.method(ClassMaker.ABSTRACT, "b", "()V");
        maker.attributes.add(ClassMaker.attribute(1, 1));
        right = maker.make();
    }

    /** The things that are wrong, in the order in which they are to be told. */
    private void wrong(String what, int fault, int place, int at, int... values) {
        Step step = new Step();
        step.what = what;
        step.fault = fault;
        step.place = place;
        step.at = at;
        step.wrong = ClassMaker.bytes(values);
        steps.add(step);
    }

    private void reading() {
        wrong("magic", ShippedClass.MAGIC, 0, 3, 0xBF);
        wrong("version", ShippedClass.VERSION, 6, 7, 66);
        wrong("a tag", ShippedClass.TAG, maker.placeOf(number), maker.placeOf(number), 2);
        int text = maker.placeOf(wrongName) + 3;
        wrong("a byte of a TEXT", ShippedClass.TEXT, text, text, 0);
        wrong("a byte of a later TEXT", ShippedClass.TEXT, maker.placeOf(wrongType) + 5, maker.placeOf(wrongType) + 5, 128);
        wrong("the name of an ATTRIBUTE", ShippedClass.REFERENCE, field.at + 8, field.at + 8, 0, 0);
        wrong("the length of the next one", ShippedClass.SHORT, field.at + 20, field.at + 16, 255, 255, 255, 255);
        int code = first.attributeAt;
        int inner = first.handlersAt + 16 + 2;
        wrong("how many instructions", ShippedClass.ATTRIBUTE, code, code + 10, 255, 255, 255, 255);
        wrong("how many HANDLERS", ShippedClass.ATTRIBUTE, code, first.handlersAt - 2, 255, 255);
        wrong("the name of an ATTRIBUTE of the CODE", ShippedClass.REFERENCE, inner, inner, 0, 2);
        wrong("its length", ShippedClass.ATTRIBUTE, code, inner + 2, 0, 0, 0, 2);
        int again = inner + 7;
        wrong("a second CODE", ShippedClass.TWICE, again, again, 0, first.code.name);
        wrong("a byte is left in another CODE", ShippedClass.ATTRIBUTE, second.attributeAt, second.codeAt - 1, 1);
        wrong("the name of one of the class", ShippedClass.REFERENCE, maker.attributesAt + 2, maker.attributesAt + 2, 255, 255);
    }

    private void linking() {
        int reference = ShippedClass.REFERENCE;
        int descriptor = ShippedClass.DESCRIPTOR;
        at(string, "a STRING", reference, 1, 0, 0);
        at(other, "a CLASS", reference, 1, 0, other);
        int otherText = maker.placeOf(other - 1) + 3;
        wrong("the TEXT of a CLASS", ShippedClass.NAME, maker.placeOf(other), otherText, '/');
        at(fieldPair, "the first of a PAIR", reference, 1, 0, 2);
        at(fieldPair, "the second of a PAIR", reference, 3, 0, 2);
        wrong("its name", ShippedClass.NAME, maker.placeOf(fieldPair), maker.placeOf(fieldPair - 2) + 3, '<');
        wrong("its type", descriptor, maker.placeOf(fieldPair), maker.placeOf(fieldPair - 1) + 3, 'V');
        at(fieldUse, "the CLASS of a FIELD", reference, 1, 0, fieldPair);
        at(fieldUse, "the PAIR of a FIELD", reference, 3, 0, 2);
        at(initUse, "the CLASS of a METHOD", reference, 1, 0, 0);
        at(shield, "the last CLASS", reference, 1, 255, 255);
        at(fieldUse, "a FIELD <init>", descriptor, 3, 0, initPair);
        at(initUse, "a METHOD of a TYPE", descriptor, 3, 0, fieldPair);
        wrong("THIS", reference, maker.thisAt, maker.thisAt, 0, 0);
        wrong("SUPER", reference, maker.thisAt + 2, maker.thisAt + 2, 0, 0);
        wrong("an INTERFACE", reference, maker.interfacesAt, maker.interfacesAt, 0, 1);
        wrong("the name of a FIELD is no TEXT", reference, field.at, field.at + 2, 0, 2);
        wrong("nor is its type", reference, field.at, field.at + 4, 0, 0);
        wrong("it is no NAME", ShippedClass.NAME, field.at, field.at + 2, 0, wrongName);
        wrong("its type is none", descriptor, field.at, field.at + 4, 0, wrongType);
        wrong("a FIELD as one before", ShippedClass.TWICE, secondField.at, secondField.at + 2, 0, field.name);
        wrong("the name of a METHOD is no TEXT", reference, first.at, first.at + 2, 0, 0);
        wrong("the name of a METHOD", ShippedClass.NAME, first.at, first.at + 2, 0, wrongName);
        wrong("the type of a METHOD", descriptor, first.at, first.at + 4, 0, field.type);
        wrong("CODE, but a flag 0x400", ShippedClass.CODE, first.at, first.at, 4);
        wrong("a METHOD as one before", ShippedClass.TWICE, second.at, second.at + 2, 0, first.name);
        wrong("CODE, but a flag 0x100", ShippedClass.CODE, second.at, second.at, 1);
        wrong("no CODE, and no flag", ShippedClass.CODE, bare.at, bare.at, 0);
    }

    private void at(int constant, String what, int fault, int off, int... values) {
        wrong(what, fault, maker.placeOf(constant), maker.placeOf(constant) + off, values);
    }

    private void policy() {
        wrong("PROTECTED", ShippedClass.PROTECTED, maker.thisAt, maker.thisAt, 0, shield);
        at(fieldUse, "a FIELD of another", ShippedClass.FORBIDDEN, 1, 0, maker.parent);
        at(initUse, "a METHOD of another", ShippedClass.FORBIDDEN, 1, 0, other);
        wrong("STACK of 65", ShippedClass.LIMIT, first.at, first.attributeAt + 7, 65);
        wrong("finalize", ShippedClass.FINALIZER, second.at, second.at + 2, 0, finalize);
        wrong("LOCALS of 256", ShippedClass.LIMIT, second.at, second.attributeAt + 8, 1);
        wrong("a METHOD of flag 0x100", ShippedClass.NATIVE, bare.at, bare.at, 5);
    }

    private void verifying() {
        int code = first.codeAt;
        wrong("no such opcode", ShippedClass.OPCODE, code + 11, code + 11, 255);
        wrong("an opcode that is not all there", ShippedClass.FALL, code + 17, code + 15, 0, 0, 16);
        wrong("start is end", ShippedClass.HANDLER, first.handlersAt, first.handlersAt, 0, 2);
        wrong("to is none", ShippedClass.HANDLER, first.handlersAt, first.handlersAt + 4, 0, 1);
        wrong("type is none", ShippedClass.HANDLER, first.handlersAt + 8, first.handlersAt + 14, 0, 1);
        wrong("LOCALS of 0", ShippedClass.LOCAL, first.at, first.at, 0, 0, 0, first.name, 0, maker.methods.get(0).type, 0, 2,
                0, first.code.name, 0, 0, 0, right[first.attributeAt + 5], 0, 2, 0, 0);
        wrong("ldc of a CLASS", ShippedClass.REFERENCE, code, code + 1, 2);
        wrong("STACK of 0", ShippedClass.STACK, code, first.attributeAt + 7, 0);
        wrong("I for A in a HANDLER", ShippedClass.FRAME, code, first.handlersAt + 4, 0, 0);
        wrong("A is added to", ShippedClass.KIND, code + 2, code + 2, 190);
        wrong("getstatic of a METHOD", ShippedClass.REFERENCE, code + 3, code + 5, initUse);
        wrong("the stack where both ways meet", ShippedClass.STACK, code + 6, code + 6, 159);
        wrong("a jump into an INSTRUCTION", ShippedClass.TARGET, code + 6, code + 8, 11);
        wrong("a LOCAL that is not there", ShippedClass.LOCAL, code + 10, code + 10, 64);
        wrong("nothing lies there", ShippedClass.STACK, code + 11, code + 11, 87);
        wrong("not what the METHOD answers", ShippedClass.STACK, code + 12, code + 12, 172);
        wrong("it goes on", ShippedClass.KIND, code + 14, code + 14, 172);
        wrong("the second METHOD", ShippedClass.OPCODE, second.codeAt, second.codeAt, 255);
        wrong("it falls", ShippedClass.FALL, second.codeAt + 1, second.codeAt + 1, 0);
    }

    /** With the steps from this one on still wrong; what is told first lies above what is told later. */
    private byte[] wrongFrom(int from) {
        byte[] row = right.clone();
        for (int i = steps.size() - 1; i >= from; i--) {
            Step step = steps.get(i);
            System.arraycopy(step.wrong, 0, row, step.at, step.wrong.length);
        }
        return row;
    }

    private void change(ShippedClass x, byte[] from, byte[] to) {
        for (int i = 0; i < to.length; i++) {
            if (from[i] != to[i]) {
                x.put(i, to[i] & 255);
                calls++;
            }
        }
    }

    private ShippedClass begin(byte[] bytes) {
        ShippedClass x = new ShippedClass();
        x.feed(1, 'P' << 24, 0, 0, 0);
        x.rule(false, 1);
        Checks.feed(x, bytes);
        return x;
    }

    private void climb(boolean hasMore) {
        CHECKS.dueFault("all is right", begin(right), 0, ShippedClass.NONE);
        ShippedClass same = begin(wrongFrom(0));
        calls = 2 + (right.length + 15) / 16;
        for (int i = 0; i < steps.size(); i++) {
            Step step = steps.get(i);
            byte[] bytes = wrongFrom(i);
            change(same, wrongFrom(Math.max(0, i - 1)), bytes);
            CHECKS.dueFault(step.what + ", on a new object", begin(bytes), step.fault, step.place);
            CHECKS.dueFault(step.what + ", on the same object", same, step.fault, step.place);
            calls += 2;
        }
        change(same, wrongFrom(steps.size() - 1), right);
        if (hasMore) {
            same.feed(1, 0, 0, 0, 0);
            CHECKS.dueFault("a byte more", same, ShippedClass.MORE, right.length);
            same.cut(right.length);
        }
        CHECKS.dueFault("all is mended", same, 0, ShippedClass.NONE);
        CHECKS.due("its METHODS", same.count(3), 3);
        calls += 3 + (hasMore ? 4 : 0);
        CHECKS.due("no more calls than an object is used for", Math.max(calls, 512), 512);
    }
}
