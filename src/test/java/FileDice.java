import java.util.ArrayList;
import java.util.List;

/** Throws class files of at most 600 bytes, most of them right or nearly so. */
final class FileDice {
    private static final String[] TYPES = {"I", "I", "Z", "J", "J", "La;", "[J", "[[Lb/c;", "L);", "F", "D"};
    private static final String[] WRONG_TYPES = {"", "V", "L", "La", "[", "II", "L/;", "La/;", "L;", "()V"};
    private static final String[] NAMES = {"a", "b", "get", "finalize", "m", "x-y"};
    private static final String[] RARE_NAMES = {"", "<init>", "a.b", "<clinit>", "a/b", "a b", "a<b"};
    private static final String[] OWNERS = {"Own", "ext/Lib", "ext/Lib", "java/lang/O", "Ow"};

    private final Dice dice;
    private ClassMaker maker;
    private CodeDice code;
    private int codeName;

    FileDice(Dice dice) {
        this.dice = dice;
    }

    byte[] next() {
        byte[] bytes = make();
        for (int i = 0; i < 20 && bytes.length > 600; i++) {
            bytes = make();
        }
        return bytes.length > 600 ? new ClassMaker().make() : bytes;
    }

    private byte[] make() {
        maker = new ClassMaker();
        code = new CodeDice(dice);
        codeName = maker.text(dice.seldom(60, "code", "Code"));
        maker.self = dice.isOneOf(3) ? maker.classOf("own/Er") : maker.self;
        addConstants();
        for (int i = dice.upTo(3); i > 0; i--) {
            maker.implementing(dice.isOneOf(60) ? codeName : dice.oneOf(maker.self, maker.parent));
        }
        for (int i = dice.upTo(4); i > 0; i--) {
            addAttributes(maker.field(dice.upTo(32), name(), type()).attributes);
        }
        for (int i = dice.upTo(4); i > 0; i--) {
            addMethod();
        }
        addAttributes(maker.attributes);
        return maker.make();
    }

    private String type() {
        return dice.isOneOf(400) ? dice.oneOf(WRONG_TYPES) : dice.oneOf(TYPES);
    }

    private List<String> types() {
        List<String> all = new ArrayList<>();
        for (int i = dice.upTo(4); i > 0; i--) {
            all.add(type());
        }
        return all;
    }

    private String methodType(List<String> types, String answer) {
        return dice.seldom(300, "[", "(") + String.join("", types) + dice.seldom(300, "", ")") + answer;
    }

    /** U for F and D, and for what is no TYPE. */
    private static char kindOf(String type) {
        return type.isEmpty() ? 'U' : PlainAudit.kindOf(type.charAt(0));
    }

    private static String kindsOf(List<String> types) {
        StringBuilder kinds = new StringBuilder();
        for (String type : types) {
            kinds.append(kindOf(type));
        }
        return kinds.toString();
    }

    private static String localsOf(List<String> types) {
        StringBuilder kinds = new StringBuilder();
        for (String type : types) {
            kinds.append(type.equals("J") ? "JH" : type.equals("D") ? "UU" : "" + kindOf(type));
        }
        return kinds.toString();
    }

    /** Mostly one that no other MEMBER has. */
    private String name() {
        if (dice.isOneOf(200)) {
            return dice.oneOf(RARE_NAMES);
        }
        return dice.isOneOf(6) ? dice.oneOf(NAMES) : "n" + dice.upTo(1000);
    }

    private void addConstants() {
        code.add("", "I", 18, maker.intOf(dice.anyNumber()));
        int number = maker.longOf(dice.anyNumber());
        code.add("", "J", 20, 0, number);
        code.add("", "A", 18, maker.stringAt(dice.isOneOf(60) ? number : codeName));
        code.add("", "A", 187, 0, maker.self);
        code.add("A", "A", 192, 0, maker.parent);
        code.add("A", "I", 193, 0, dice.isOneOf(60) ? codeName : maker.parent);
        for (int i = dice.upTo(3); i > 0; i--) {
            addUsedField();
        }
        for (int i = dice.upTo(3); i > 0; i--) {
            addUsedMethod();
        }
    }

    private int owner() {
        return dice.isOneOf(6) ? maker.classOf(dice.oneOf(OWNERS)) : maker.self;
    }

    private void addUsedField() {
        String type = type();
        int number = maker.fieldAt(owner(), maker.pairOf(name(), type));
        char kind = kindOf(type);
        if (kind != 'U') {
            code.add("", "" + kind, 178, 0, number);
            code.add("" + kind, "", 179, 0, number);
            code.add("A", "" + kind, 180, 0, number);
            code.add("A" + kind, "", 181, 0, number);
        } else if (dice.isOneOf(20)) {
            code.add("I", "", 178 + dice.upTo(4), 0, number);
        }
    }

    private void addUsedMethod() {
        boolean makesObject = dice.isOneOf(8);
        List<String> types = types();
        String answer = makesObject && !dice.isOneOf(20) ? "V" : dice.oneOf("V", "I", "J", "La;", type());
        int pair = maker.pairOf(makesObject ? "<init>" : name(), methodType(types, answer));
        int number = maker.methodAt(owner(), pair);
        String takes = kindsOf(types);
        String puts = answer.equals("V") ? "" : "" + kindOf(answer);
        if (!(takes + puts).contains("U")) {
            code.add("A" + takes, puts, makesObject ? 183 : dice.oneOf(182, 183), 0, number);
            code.add(takes, puts, makesObject && !dice.isOneOf(8) ? 183 : 184, 0, number);
        } else if (dice.isOneOf(20)) {
            code.add("I", "", 182 + dice.upTo(3), 0, number);
        }
    }

    private void addAttributes(List<byte[]> to) {
        while (dice.isOneOf(5)) {
            int name = dice.isOneOf(40) ? maker.self : dice.oneOf(codeName, 1, 1);
            to.add(ClassMaker.attribute(name, dice.upTo(256), 1, 2));
        }
    }

    private void addMethod() {
        List<String> types = types();
        String answer = dice.oneOf("V", "V", type());
        int flags = dice.upTo(16) | (dice.isOneOf(15) ? dice.oneOf(0x100, 0x400, 0x400) : 0);
        ClassMaker.Member method = maker.method(flags, name(), methodType(types, answer));
        boolean isBare = flags >= 0x100;
        if (isBare == dice.isOneOf(100)) {
            addCode(method, (flags & 8) == 0 ? "A" + localsOf(types) : localsOf(types), kindOf(answer));
        }
        if (dice.isOneOf(4)) {
            addAttributes(method.attributes);
        }
    }

    private void addCode(ClassMaker.Member method, String kinds, char answer) {
        int locals = Math.max(0, kinds.length() + (dice.isOneOf(60) ? -1 : dice.upTo(5)));
        code.begin(kinds.substring(0, Math.min(locals, kinds.length())), locals);
        int[] row = code.write(dice.upTo(60), answer);
        ClassMaker.Code made = maker.code(method, dice.isOneOf(12) ? dice.upTo(8) : 14 + dice.upTo(52), locals, row);
        made.name = codeName;
        for (int i = code.hasCatch() || dice.isOneOf(40) ? dice.upTo(3) : 0; i > 0 && row.length > 0; i--) {
            int[] handler = code.handler();
            made.handler(handler[0], handler[1], handler[2], dice.oneOf(0, maker.self, maker.parent));
        }
        addAttributes(made.attributes);
    }
}
