import java.util.List;

/** Each sentence of II. LINKING that names a bound: at it, one below and one above it. */
public final class LinkingBoundsTest {
    private static final Checks CHECKS = new Checks();
    private static final int REFERENCE = ShippedClass.REFERENCE;
    private static final int NAME = ShippedClass.NAME;
    private static final int DESCRIPTOR = ShippedClass.DESCRIPTOR;
    private static final int TWICE = ShippedClass.TWICE;
    private static final int ABSTRACT = ClassMaker.ABSTRACT;

    private LinkingBoundsTest() {
    }

    public static void main(String[] args) {
        ofAText();
        ofAClassAndAPair();
        ofTwoTexts();
        byNumber();
        fromNumberOne();
        namesOfAClass();
        lettersOfAName();
        firstOfAPair();
        plainTypes();
        classTypes();
        arrayTypes();
        methodTypes();
        pairsOfFields();
        pairsOfMethods();
        usesBehindAllConstants();
        thisSuperInterfaces();
        namesOfMembers();
        typesOfMembers();
        ordersWithinAMember();
        bothAsOneBefore();
        textsEnd();
        codeAndFlags();
        fieldsThenMethods();
        CHECKS.end();
    }

    private static void dueAt(boolean isWrong, String what, ClassMaker maker, int fault, int constant) {
        byte[] bytes = maker.make();
        CHECKS.dueFaultIf(isWrong, what, bytes, fault, maker.placeOf(constant));
    }

    /** 1 to 4 Own and Up, 5 INT, 6 and 7 LONG, 8 STRING, 9 to 11 PAIR, 12 FIELD, 13 and 14 PAIR, 15 METHOD: 16 is next. */
    private static ClassMaker everySort() {
        ClassMaker maker = new ClassMaker();
        maker.intOf(1);
        maker.longOf(1);
        maker.stringAt(1);
        maker.fieldAt(maker.self, maker.pairAt(maker.text("f"), maker.text("I")));
        maker.methodAt(maker.self, maker.pairAt(9, maker.text("()V")));
        return maker;
    }

    private static boolean isTextOfEverySort(int k) {
        return k == 1 || k == 3 || k == 9 || k == 10 || k == 13;
    }

    private static void ofAText() {
        CHECKS.sentence("CLASS, STRING: of a TEXT (REFERENCE)");
        for (int k = 0; k <= 15; k++) {
            ClassMaker string = everySort();
            dueAt(!isTextOfEverySort(k), "a STRING of " + k, string, REFERENCE, string.stringAt(k));
            ClassMaker named = everySort();
            int user = named.classAt(k);
            dueAt(!isTextOfEverySort(k), "a CLASS of " + k, named, REFERENCE, user);
        }
        for (int off = -1; off <= 2; off++) {
            // Its own number, the next one, which is the last TEXT, and n.
            ClassMaker string = everySort();
            int user = string.stringAt(16 + off);
            CHECKS.due("its own number", user, 16);
            string.text("Last");
            dueAt(off != 1, "a STRING of its own number and " + off, string, REFERENCE, user);
            ClassMaker named = everySort();
            int other = named.classAt(16 + off);
            named.text("Last");
            dueAt(off != 1, "a CLASS of its own number and " + off, named, REFERENCE, other);
        }
        for (int k : new int[] {196, 197, 199, 200, 201, 255, 256, 257, 32767, 32768, 65535}) {
            ClassMaker maker = everySort();
            dueAt(true, "a CLASS of " + k, maker, REFERENCE, maker.classAt(k));
        }
    }

    private static void ofAClassAndAPair() {
        CHECKS.sentence("FIELD, METHOD: of a CLASS and a PAIR (REFERENCE)");
        for (int isMethod = 0; isMethod < 2; isMethod++) {
            int right = isMethod == 1 ? 14 : 11;
            for (int k = 0; k <= 20; k++) {
                ClassMaker first = everySort();
                int one = isMethod == 1 ? first.methodAt(k, right) : first.fieldAt(k, right);
                first.classOf("Own");
                dueAt(k != 2 && k != 18, "of " + k + " and a PAIR", first,
                        k == 4 ? ShippedClass.FORBIDDEN : REFERENCE, one);
                ClassMaker second = everySort();
                int two = isMethod == 1 ? second.methodAt(2, k) : second.fieldAt(2, k);
                second.pairAt(9, isMethod == 1 ? 13 : 10);
                boolean isPair = k == 11 || k == 14 || k == 17;
                boolean isOwnSort = k == right || k == 17;
                dueAt(!isOwnSort, "of a CLASS and " + k, second, isPair ? DESCRIPTOR : REFERENCE, two);
            }
            ClassMaker turned = everySort();
            dueAt(true, "of a PAIR and a CLASS", turned, REFERENCE,
                    isMethod == 1 ? turned.methodAt(right, 2) : turned.fieldAt(right, 2));
        }
    }

    private static void ofTwoTexts() {
        CHECKS.sentence("PAIR: of two TEXTS (all REFERENCE)");
        for (int k = 0; k <= 20; k++) {
            ClassMaker first = everySort();
            int one = first.pairAt(k, 10);
            first.text("I");
            boolean isText = isTextOfEverySort(k) || k == 17;
            dueAt(!isText, "of " + k + " and a TEXT", first, REFERENCE, one);
            ClassMaker second = everySort();
            int two = second.pairAt(9, k);
            second.text("I");
            boolean isType = k == 10 || k == 13 || k == 17;
            dueAt(!isType, "of a TEXT and " + k, second, isText ? DESCRIPTOR : REFERENCE, two);
        }
    }

    private static void byNumber() {
        CHECKS.sentence("CONSTANTS by number, at their PLACES");
        for (int first = 0; first < 4; first++) {
            ClassMaker maker = new ClassMaker();
            int wrong = wrongConstant(maker, first);
            int fault = new int[] {REFERENCE, NAME, NAME, DESCRIPTOR}[first];
            for (int next = 0; next < 4; next++) {
                wrongConstant(maker, next);
            }
            dueAt(true, "the first of many, of sort " + first, maker, fault, wrong);
        }
    }

    /** Here the CONSTANT that tells others is number 1, and those are behind it. */
    private static byte[] withFirst(int... first) {
        // 2 A, 3 CLASS A, 4 f, 5 I, 6 PAIR f I, 7 ()V, 8 PAIR f ()V, 9 a.b, 10 CLASS f; THIS and SUPER are A.
        int[] rest = {1, 0, 1, 'A', 7, 0, 2, 1, 0, 1, 'f', 1, 0, 1, 'I', 12, 0, 4, 0, 5, 1, 0, 3, '(', ')', 'V',
            12, 0, 4, 0, 7, 1, 0, 3, 'a', '.', 'b', 7, 0, 4, 0, 0, 0, 3, 0, 3, 0, 0, 0, 0, 0, 0, 0, 0};
        int[] head = {0xCA, 0xFE, 0xBA, 0xBE, 0, 0, 0, 61, 0, 11};
        int[] all = new int[head.length + first.length + rest.length];
        System.arraycopy(head, 0, all, 0, head.length);
        System.arraycopy(first, 0, all, head.length, first.length);
        System.arraycopy(rest, 0, all, head.length + first.length, rest.length);
        return ClassMaker.bytes(all);
    }

    private static void dueFirst(String what, int fault, int... first) {
        CHECKS.dueFaultIf(fault != 0, what, withFirst(first), fault, 10);
    }

    private static void fromNumberOne() {
        CHECKS.sentence("CONSTANTS by number (from 1 on); Then FIELDS and METHODS by number (the first of all)");
        dueFirst("a CLASS", 0, 7, 0, 2);
        dueFirst("a CLASS of none", REFERENCE, 7, 0, 0);
        dueFirst("a CLASS of itself", REFERENCE, 7, 0, 1);
        dueFirst("a CLASS of no NAME", NAME, 7, 0, 9);
        dueFirst("a STRING", 0, 8, 0, 9);
        dueFirst("a STRING of itself", REFERENCE, 8, 0, 1);
        dueFirst("a PAIR", 0, 12, 0, 4, 0, 5);
        dueFirst("a PAIR of itself", REFERENCE, 12, 0, 1, 0, 5);
        dueFirst("a PAIR of no NAME", NAME, 12, 0, 9, 0, 5);
        dueFirst("a PAIR of no TYPE", DESCRIPTOR, 12, 0, 4, 0, 9);
        dueFirst("a FIELD", 0, 9, 0, 3, 0, 6);
        dueFirst("a FIELD of itself", REFERENCE, 9, 0, 1, 0, 6);
        dueFirst("a FIELD of a METHOD TYPE", DESCRIPTOR, 9, 0, 3, 0, 8);
        dueFirst("a METHOD", 0, 10, 0, 3, 0, 8);
        dueFirst("a METHOD of no PAIR", REFERENCE, 10, 0, 3, 0, 1);
        dueFirst("a METHOD of a TYPE", DESCRIPTOR, 10, 0, 3, 0, 6);
        dueFirst("a FIELD of another", ShippedClass.FORBIDDEN, 9, 0, 10, 0, 6);
        dueFirst("a METHOD of another", ShippedClass.FORBIDDEN, 10, 0, 10, 0, 8);
    }

    private static int wrongConstant(ClassMaker maker, int sort) {
        switch (sort) {
            case 0:
                return maker.stringAt(0);
            case 1:
                return maker.classOf("a.b");
            case 2:
                return maker.pairOf("a/b", "x");
            default:
                return maker.pairOf("a", "x");
        }
    }

    private static void namesOfAClass() {
        CHECKS.sentence("the TEXT of a CLASS: one or more NAMES with / between (NAME)");
        for (String name : new String[] {"a", "ab", "a/b", "a/b/c", "aa/bb/cc/dd", "a".repeat(255), "a/".repeat(127) + "b"}) {
            ClassMaker maker = new ClassMaker();
            dueAt(false, "CLASS " + name, maker, 0, maker.classOf(name));
        }
        for (String name : new String[] {"", "/", "//", "/a", "a/", "a//b", "/a/b", "a/b/", "a///b", "a/".repeat(100)}) {
            ClassMaker maker = new ClassMaker();
            dueAt(true, "CLASS " + name, maker, NAME, maker.classOf(name));
        }
    }

    private static boolean isLetter(int letter) {
        return letter > 32 && ".;[/<>".indexOf(letter) < 0;
    }

    private static void lettersOfAName() {
        CHECKS.sentence("A NAME has one or more characters, all above 32 but . ; [ / < >");
        for (int letter = 1; letter < 128; letter++) {
            for (int at = 0; at < 4; at++) {
                String c = String.valueOf((char) letter);
                String name = new String[] {c + "ab", "a" + c + "b", "ab" + c, c}[at];
                String what = "letter " + letter + " at " + at;
                ClassMaker pair = new ClassMaker();
                dueAt(!isLetter(letter), what + " of a PAIR", pair, NAME, pair.pairOf(name, "I"));
                ClassMaker named = new ClassMaker();
                boolean isClass = isLetter(letter) || letter == '/' && at == 1;
                dueAt(!isClass, what + " of a CLASS", named, NAME, named.classOf(name));
                ClassMaker deep = new ClassMaker();
                dueAt(!isClass, what + " of a CLASS in a package", deep, NAME, deep.classOf("x/" + name + "/y"));
                ClassMaker type = new ClassMaker();
                dueAt(!isClass, what + " of a TYPE", type, DESCRIPTOR, type.pairOf("f", "L" + name + ";"));
                ClassMaker field = new ClassMaker();
                ClassMaker.Member f = field.field(0, name, "I");
                CHECKS.dueFaultIf(!isLetter(letter), what + " of a FIELD", field.make(), NAME, f.at);
                ClassMaker method = new ClassMaker();
                ClassMaker.Member m = method.method(ABSTRACT, name, "()V");
                CHECKS.dueFaultIf(!isLetter(letter), what + " of a METHOD", method.make(), NAME, m.at);
            }
        }
    }

    private static void firstOfAPair() {
        CHECKS.sentence("the first of a PAIR: a NAME, or <init> (NAME)");
        for (String name : new String[] {"<init>", "init", "i", "finit"}) {
            ClassMaker maker = new ClassMaker();
            dueAt(false, "PAIR " + name, maker, 0, maker.pairOf(name, "()V"));
        }
        for (String name : new String[] {"", "<init", "init>", "<init>>", "<<init>", "<Init>", "<inix>", "<ini>", "<>",
            "<clinit>", "a<init>", "<init>a", "<", ">"}) {
            ClassMaker maker = new ClassMaker();
            dueAt(true, "PAIR " + name, maker, NAME, maker.pairOf(name, "()V"));
        }
        ClassMaker both = new ClassMaker();
        dueAt(true, "NAME before DESCRIPTOR", both, NAME, both.pairOf("", ""));
        ClassMaker type = new ClassMaker();
        dueAt(false, "<init> of a TYPE is right for a PAIR", type, 0, type.pairOf("<init>", "I"));
    }

    private static void duePair(String type, boolean isType, boolean isMethodType) {
        ClassMaker pair = new ClassMaker();
        dueAt(!isType && !isMethodType, "the second " + type, pair, DESCRIPTOR, pair.pairOf("f", type));
        ClassMaker field = new ClassMaker();
        int two = field.text(type);
        int one = field.pairAt(field.text("f"), two);
        int use = field.fieldAt(field.self, one);
        dueAt(!isType, "a FIELD's " + type, field, DESCRIPTOR, isMethodType ? use : one);
        ClassMaker method = new ClassMaker();
        int second = method.text(type);
        int first = method.pairAt(method.text("f"), second);
        int call = method.methodAt(method.self, first);
        dueAt(!isMethodType, "a METHOD's " + type, method, DESCRIPTOR, isType ? call : first);
        ClassMaker own = new ClassMaker();
        ClassMaker.Member f = own.field(0, "f", type);
        CHECKS.dueFaultIf(!isType, "the type of a FIELD " + type, own.make(), DESCRIPTOR, f.at);
        ClassMaker other = new ClassMaker();
        ClassMaker.Member m = other.method(ABSTRACT, "m", type);
        CHECKS.dueFaultIf(!isMethodType, "the type of a METHOD " + type, other.make(), DESCRIPTOR, m.at);
    }

    private static void plainTypes() {
        CHECKS.sentence("A TYPE is one of B C D F I J S Z");
        duePair("", false, false);
        for (int letter = 1; letter < 128; letter++) {
            String c = String.valueOf((char) letter);
            boolean isType = "BCDFIJSZ".indexOf(letter) >= 0;
            duePair(c, isType, false);
            duePair(c + c, false, false);
            duePair("[" + c, isType, false);
            duePair("(" + c + ")V", false, isType);
            duePair("()" + c, false, isType || letter == 'V');
            duePair("()[" + c, false, isType);
        }
    }

    private static void classTypes() {
        CHECKS.sentence("or L, what the TEXT of a CLASS may be, and ;");
        for (String name : new String[] {"A", "I", "L", "V", "(", ")", "a/b", "a/b/c", "\u007f", "!", "LL", "x".repeat(200)}) {
            duePair("L" + name + ";", true, false);
            duePair("L" + name, false, false);
            duePair(name.startsWith("L") ? "l" + name : name + ";", false, false);
            duePair("L" + name + ";;", false, false);
            duePair("L" + name + ";I", false, false);
            duePair("(L" + name + ";)L" + name + ";", false, true);
            duePair("(L" + name + ";L" + name + ";)V", false, true);
            duePair("(L" + name + ")V", false, false);
            duePair("()L" + name, false, false);
        }
        for (String name : new String[] {"", "/", "/a", "a/", "a//b", " ", "a.b", "a[", "<a", "a>"}) {
            duePair("L" + name + ";", false, false);
            duePair("(L" + name + ";)V", false, false);
            duePair("()L" + name + ";", false, false);
        }
    }

    private static void arrayTypes() {
        CHECKS.sentence("or [ and a TYPE");
        for (int many : new int[] {1, 2, 3, 254, 255, 256, 257, 400}) {
            String row = "[".repeat(many);
            duePair(row + "I", true, false);
            duePair(row, false, false);
            duePair(row + "V", false, false);
            duePair(row + "II", false, false);
            duePair(row + "LA;", true, false);
            duePair(row + "LA", false, false);
            duePair("I" + row, false, false);
            duePair("(" + row + "J)V", false, true);
            duePair("(" + row + ")V", false, false);
        }
    }

    private static void methodTypes() {
        CHECKS.sentence("A METHOD TYPE is (, TYPES, ), and a TYPE or V");
        for (int many : new int[] {0, 1, 2, 63, 64, 65, 255, 256, 300}) {
            String row = "I".repeat(many);
            duePair("(" + row + ")V", false, true);
            duePair("(" + row + ")J", false, true);
            duePair("(" + row + ")", false, false);
            duePair("(" + row, false, false);
            duePair("(" + row + "V)V", false, false);
            duePair("(" + row + ")VV", false, false);
            duePair("(" + row + ")VI", false, false);
            duePair("(" + row + ")II", false, false);
            duePair("(" + row + "))V", false, false);
            duePair("((" + row + ")V", false, false);
            duePair(row + ")V", false, false);
        }
    }

    private static void pairsOfFields() {
        CHECKS.sentence("a FIELD's PAIR has no <init> and a TYPE (DESCRIPTOR)");
        for (String name : new String[] {"<init>", "init", "f"}) {
            for (String type : new String[] {"I", "()V", "[J", "()I"}) {
                ClassMaker maker = new ClassMaker();
                boolean isRight = !name.equals("<init>") && !type.startsWith("(");
                dueAt(!isRight, "FIELD " + name + " " + type, maker, DESCRIPTOR, maker.ownField(name, type));
            }
        }
    }

    private static void pairsOfMethods() {
        CHECKS.sentence("a METHOD's a METHOD TYPE, with V at its end behind <init> (DESCRIPTOR)");
        for (String name : new String[] {"<init>", "init", "m"}) {
            for (String type : new String[] {"()V", "(I)V", "(LV;)V", "()I", "()LV;", "()[I", "(LV;)J", "()D", "V", "I"}) {
                ClassMaker maker = new ClassMaker();
                boolean isMethodType = type.startsWith("(");
                boolean isRight = isMethodType && (!name.equals("<init>") || type.endsWith("V"));
                int pair = maker.pairOf(name, type);
                int use = maker.methodAt(maker.self, pair);
                dueAt(!isRight, "METHOD " + name + " " + type, maker, DESCRIPTOR, type.equals("V") ? pair : use);
            }
        }
    }

    private static void usesBehindAllConstants() {
        CHECKS.sentence("Then FIELDS and METHODS by number");
        for (int first = 0; first < 2; first++) {
            ClassMaker maker = new ClassMaker();
            int wrong = first == 0 ? maker.ownField("f", "()V") : maker.ownMethod("m", "I");
            maker.ownMethod("<init>", "()I");
            maker.ownField("<init>", "I");
            dueAt(true, "the first of them", maker, DESCRIPTOR, wrong);
            int later = maker.classOf("a.");
            dueAt(true, "all CONSTANTS come before", maker, NAME, later);
        }
    }

    private static void thisSuperInterfaces() {
        CHECKS.sentence("THIS, SUPER, INTERFACES are of CLASSES (REFERENCE at their PLACES)");
        for (int k : new int[] {0, 1, 2, 3, 4, 5, 6, 7, 8, 11, 12, 14, 15, 16, 17, 199, 200, 256 + 2, 65535}) {
            for (int where = 0; where < 4; where++) {
                ClassMaker maker = everySort();
                int last = maker.classOf("Own");
                CHECKS.due("the last of them", last, 17);
                maker.implementing(where == 2 ? k : 2).implementing(where == 3 ? k : 2);
                maker.self = where == 0 ? k : 2;
                maker.parent = where == 1 ? k : 2;
                byte[] bytes = maker.make();
                int[] places = {maker.thisAt, maker.thisAt + 2, maker.interfacesAt, maker.interfacesAt + 2};
                boolean isClass = k == 2 || k == 4 || k == 17;
                boolean isOther = where == 0 && k == 4;
                if (!isOther) {
                    CHECKS.dueFaultIf(!isClass, where + " of " + k, bytes, REFERENCE, places[where]);
                }
            }
        }
        ClassMaker order = new ClassMaker();
        order.field(0, "", "I");
        order.implementing(0);
        CHECKS.dueFault("before the FIELDS", order.make(), REFERENCE, order.interfacesAt);
        order.parent = 0;
        CHECKS.dueFault("SUPER before INTERFACES", order.make(), REFERENCE, order.thisAt + 2);
        order.self = 0;
        CHECKS.dueFault("THIS before SUPER", order.make(), REFERENCE, order.thisAt);
    }

    private static void namesOfMembers() {
        CHECKS.sentence("the name a NAME (for METHODS also <init>, <clinit>) (NAME)");
        for (String name : new String[] {"<init>", "<clinit>", "<init", "init>", "<clinit", "clinit>", "<Clinit>", "<clini>",
            "<clinit>>", "<>", "<a>", "", "a/b", "m", "init", "clinit"}) {
            boolean isName = name.equals("m") || name.equals("init") || name.equals("clinit");
            boolean isOwn = name.equals("<init>") || name.equals("<clinit>");
            ClassMaker field = new ClassMaker();
            ClassMaker.Member f = field.field(0, name, "I");
            CHECKS.dueFaultIf(!isName, "FIELD " + name, field.make(), NAME, f.at);
            ClassMaker method = new ClassMaker();
            ClassMaker.Member m = method.method(ABSTRACT, name, "()V");
            CHECKS.dueFaultIf(!isName && !isOwn, "METHOD " + name, method.make(), NAME, m.at);
        }
    }

    private static void typesOfMembers() {
        CHECKS.sentence("the type (DESCRIPTOR)");
        for (String type : new String[] {"I", "[I", "LA;", "V", "", "()V", "()I", "()", "(I)D"}) {
            boolean isType = type.equals("I") || type.equals("[I") || type.equals("LA;");
            boolean isMethodType = type.equals("()V") || type.equals("()I") || type.equals("(I)D");
            for (String name : new String[] {"m", "<init>", "<clinit>"}) {
                if (name.equals("m")) {
                    ClassMaker field = new ClassMaker();
                    ClassMaker.Member f = field.field(0, name, type);
                    CHECKS.dueFaultIf(!isType, "FIELD of " + type, field.make(), DESCRIPTOR, f.at);
                }
                ClassMaker method = new ClassMaker();
                ClassMaker.Member m = method.method(ABSTRACT, name, type);
                boolean isRight = isMethodType && (!name.equals("<init>") || type.endsWith("V"));
                CHECKS.dueFaultIf(!isRight, "METHOD " + name + " of " + type, method.make(), DESCRIPTOR, m.at);
            }
        }
    }

    private static void ordersWithinAMember() {
        CHECKS.sentence("name, type of TEXTS (REFERENCE); the name ... (NAME); the type (DESCRIPTOR); ... (TWICE); ... (CODE)");
        for (int isMethod = 0; isMethod < 2; isMethod++) {
            for (int k : new int[] {0, 2, 5, 6, 7, 8, 11, 12, 14, 15, 65535}) {
                for (int which = 0; which < 3; which++) {
                    ClassMaker maker = everySort();
                    List<ClassMaker.Member> to = isMethod == 1 ? maker.methods : maker.fields;
                    ClassMaker.Member member = maker.member(to, 0, which == 1 ? maker.text("a.b") : k,
                            which == 0 ? maker.text("x") : k);
                    CHECKS.dueFault("REFERENCE " + k + " " + which, maker.make(), REFERENCE, member.at);
                }
            }
            ClassMaker maker = new ClassMaker();
            List<ClassMaker.Member> to = isMethod == 1 ? maker.methods : maker.fields;
            int wrongName = maker.text("a.b");
            int wrongType = maker.text("x");
            int name = maker.text("m");
            int type = maker.text(isMethod == 1 ? "()V" : "I");
            maker.member(to, ABSTRACT, name, type);
            ClassMaker.Member member = maker.member(to, 0, wrongName, wrongType);
            CHECKS.dueFault("NAME before DESCRIPTOR", maker.make(), NAME, member.at);
            member.name = name;
            CHECKS.dueFault("DESCRIPTOR before CODE", maker.make(), DESCRIPTOR, member.at);
            member.type = type;
            CHECKS.dueFault("TWICE before CODE", maker.make(), TWICE, member.at);
            member.name = maker.text("n");
            CHECKS.dueFaultIf(isMethod == 1, "CODE at last", maker.make(), ShippedClass.CODE, member.at);
        }
    }

    private static void bothAsOneBefore() {
        CHECKS.sentence("not both as one before among FIELDS, or METHODS (TWICE)");
        for (int isMethod = 0; isMethod < 2; isMethod++) {
            String[][] pairs = isMethod == 1
                    ? new String[][] {{"m", "()V"}, {"m", "()I"}, {"n", "()V"}, {"mm", "()V"}, {"m", "(I)V"}, {"M", "()V"}}
                    : new String[][] {{"m", "I"}, {"m", "J"}, {"n", "I"}, {"mm", "I"}, {"m", "[I"}, {"M", "I"}};
            ClassMaker all = new ClassMaker();
            for (String[] pair : pairs) {
                all.member(isMethod == 1 ? all.methods : all.fields, ABSTRACT, all.text(pair[0]), all.text(pair[1]));
            }
            CHECKS.dueNone("one of both differs everywhere", all.make());
            for (int again = 0; again < pairs.length; again++) {
                ClassMaker maker = new ClassMaker();
                List<ClassMaker.Member> to = isMethod == 1 ? maker.methods : maker.fields;
                for (String[] pair : pairs) {
                    maker.member(to, ABSTRACT, maker.text(pair[0]), maker.text(pair[1]));
                }
                ClassMaker.Member twice = maker.member(to, ABSTRACT, maker.text(pairs[again][0]), maker.text(pairs[again][1]));
                maker.member(to, ABSTRACT, twice.name, twice.type);
                CHECKS.dueFault("as number " + again, maker.make(), TWICE, twice.at);
            }
        }
        ClassMaker sorts = new ClassMaker();
        sorts.field(0, "m", "I");
        sorts.method(ABSTRACT, "m", "()V");
        CHECKS.dueNone("a FIELD and a METHOD of one name", sorts.make());
    }

    /** The last TEXT of all; what is behind it are the flags, whose bytes may be letters. */
    private static ClassMaker withFlags(String letters) {
        ClassMaker maker = new ClassMaker();
        maker.flags = letters.charAt(0) << 8 | letters.charAt(1);
        return maker;
    }

    private static void textsEnd() {
        CHECKS.sentence("1 TEXT: u2 length, that many bytes (what is behind them is no more of it)");
        String[][] types = {{"", "IV"}, {"[", "II"}, {"LA", ";;"}, {"L", "A;"}, {"()", "VV"}, {"(", ")V"}, {"", "()"},
            {"(I", ")I"}, {"(LA", ";)"}, {"()[", "II"}, {"()LA", ";V"}, {"()L", "A;"}};
        for (String[] row : types) {
            ClassMaker pair = withFlags(row[1]);
            int wrong = pair.pairAt(1, 6);
            pair.text(row[0]);
            dueAt(true, "the type " + row[0] + " and " + row[1], pair, DESCRIPTOR, wrong);
            ClassMaker field = withFlags(row[1]);
            ClassMaker.Member f = field.field(0, "f", row[0]);
            CHECKS.dueFault("of a FIELD " + row[0], field.make(), DESCRIPTOR, f.at);
            ClassMaker method = withFlags(row[1]);
            ClassMaker.Member m = method.method(ABSTRACT, "m", row[0]);
            CHECKS.dueFault("of a METHOD " + row[0], method.make(), DESCRIPTOR, m.at);
        }
        for (String[] row : new String[][] {{"", "ab"}, {"a/", "bc"}, {"<init", ">x"}, {"", "<i"}}) {
            ClassMaker named = withFlags(row[1]);
            int wrong = named.classAt(6);
            named.text(row[0]);
            dueAt(true, "a CLASS " + row[0] + " and " + row[1], named, NAME, wrong);
            ClassMaker pair = withFlags(row[1]);
            int other = pair.pairAt(6, 1);
            pair.text(row[0]);
            dueAt(true, "a PAIR " + row[0] + " and " + row[1], pair, NAME, other);
        }
        for (String[] row : new String[][] {{"a", "bc"}, {"a", "/b"}, {"a/b", "/c"}, {"a/b", ".x"}, {"a", "//"}}) {
            ClassMaker named = withFlags(row[1]);
            int right = named.classAt(6);
            named.text(row[0]);
            dueAt(false, "a CLASS " + row[0] + " and " + row[1], named, 0, right);
        }
        for (String[] row : new String[][] {{"I", "II"}, {"I", ";;"}, {"LA;", ";I"}, {"[I", "[I"}, {"[[LA;", ";;"}}) {
            ClassMaker field = withFlags(row[1]);
            field.field(0, "f", row[0]);
            CHECKS.dueNone("of a FIELD " + row[0] + " and " + row[1], field.make());
        }
        for (String[] row : new String[][] {{"()V", "VV"}, {"()I", "IV"}, {"(I)LA;", ";;"}, {"()[I", "[I"}}) {
            ClassMaker method = withFlags(row[1]);
            method.method(ABSTRACT, "m", row[0]);
            CHECKS.dueNone("of a METHOD " + row[0] + " and " + row[1], method.make());
        }
        for (String[] row : new String[][] {{"a", "./"}, {"a", "/b"}, {"ab", ";["}, {"<init>", "<>"}}) {
            ClassMaker pair = withFlags(row[1]);
            int right = pair.pairAt(6, 7);
            pair.text(row[0]);
            pair.text("()V");
            dueAt(false, "a PAIR " + row[0] + " and " + row[1], pair, 0, right);
        }
    }

    private static void codeAndFlags() {
        CHECKS.sentence("a METHOD has CODE, but not with a flag 0x400 or 0x100 (CODE)");
        for (int bit = -1; bit < 16; bit++) {
            int flags = bit < 0 ? 0 : 1 << bit;
            boolean isBare = flags == 0x400 || flags == 0x100;
            ClassMaker with = new ClassMaker();
            ClassMaker.Member m = with.method(flags, "m", "()V", 0, 1, 177);
            CHECKS.dueFaultIf(isBare, "CODE with " + flags, with.make(), ShippedClass.CODE, m.at);
            ClassMaker without = new ClassMaker();
            ClassMaker.Member n = without.method(flags, "m", "()V");
            CHECKS.dueFaultIf(flags != 0x400, "no CODE with " + flags, without.make(),
                    flags == 0x100 ? ShippedClass.NATIVE : ShippedClass.CODE, n.at);
            ClassMaker field = new ClassMaker();
            field.field(flags, "f", "I");
            CHECKS.dueNone("a FIELD with " + flags, field.make());
        }
        ClassMaker all = new ClassMaker();
        ClassMaker.Member m = all.method(0xFFFF, "m", "()V", 0, 1, 177);
        CHECKS.dueFault("CODE with all flags", all.make(), ShippedClass.CODE, m.at);
        ClassMaker most = new ClassMaker();
        most.method(0xFAFF, "m", "()V", 0, 1, 177);
        CHECKS.dueNone("CODE with all flags but those", most.make());
    }

    private static void fieldsThenMethods() {
        CHECKS.sentence("FIELDS, then METHODS, at their PLACES");
        ClassMaker maker = new ClassMaker();
        maker.field(0, "f", "I");
        ClassMaker.Member field = maker.field(0, "g", "V");
        ClassMaker.Member first = maker.method(0, "m", "()V");
        ClassMaker.Member second = maker.method(0, "", "()V");
        CHECKS.dueFault("the second FIELD", maker.make(), DESCRIPTOR, field.at);
        field.type = maker.text("J");
        CHECKS.dueFault("the first METHOD with all that can be wrong", maker.make(), ShippedClass.CODE, first.at);
        first.flags = ABSTRACT;
        CHECKS.dueFault("the second METHOD", maker.make(), NAME, second.at);
    }
}
