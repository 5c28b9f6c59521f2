import java.util.ArrayList;
import java.util.List;
import java.util.TreeMap;
import java.util.regex.Matcher;
import java.util.regex.Pattern;

/**
 * What an audit must answer, written a second time from the document and in another way: with texts, lists and
 * patterns, and a fault that is thrown. RunsTest asks it and ShippedClass the same.
 */
final class PlainAudit {
    private static final String NAME = "[^.;\\[/<>\\x00-\\x20]+";
    private static final String CLASS_TEXT = NAME + "(?:/" + NAME + ")*";
    private static final String TYPE = "\\[*(?:[BCDFIJSZ]|L" + CLASS_TEXT + ";)";
    private static final Pattern ONE_TYPE = Pattern.compile(TYPE);
    private static final Pattern METHOD_TYPE = Pattern.compile("\\((?:" + TYPE + ")*\\)(?:" + TYPE + "|V)");
    private static final Pattern ONE_NAME = Pattern.compile(NAME);
    private static final Pattern NAMES = Pattern.compile(CLASS_TEXT);

    /** What is wrong first. */
    static final class Wrong extends RuntimeException {
        private static final long serialVersionUID = 1L;
        final int fault;
        final int place;

        Wrong(int fault, int place) {
            super(null, null, false, false);
            this.fault = fault;
            this.place = place;
        }
    }

    record Constant(int tag, int place, String text, int first, int second) {
    }

    record Handler(int place, int start, int end, int to, int type) {
    }

    record Code(int stack, int locals, int from, int length, List<Handler> handlers) {
    }

    record Member(int place, int flags, int name, int type, List<Code> codes) {
    }

    /** The texts and limits of an object. */
    record Rules(List<String> guarded, List<String> allowed, int mostMethods, int mostBytes) {
    }

    final int fault;
    final int place;
    final List<Integer> interfaces = new ArrayList<>();
    final List<Member> fields = new ArrayList<>();
    final List<Member> methods = new ArrayList<>();
    final List<PlainCode> codes = new ArrayList<>();
    int n;
    int self;
    int parent;

    private final byte[] bytes;
    private final TreeMap<Integer, Constant> constants = new TreeMap<>();
    private int at;
    private int end;
    private Wrong shortage;
    private int selfAt;
    private int methodsAt;

    PlainAudit(byte[] bytes, Rules rules) {
        this.bytes = bytes;
        this.end = bytes.length;
        Wrong first = null;
        try {
            read();
            link();
            admit(rules);
            verify();
        } catch (Wrong wrong) {
            first = wrong;
        }
        fault = first == null ? 0 : first.fault;
        place = first == null ? ShippedClass.NONE : first.place;
    }

    private static void wrongIf(boolean isWrong, int fault, int place) {
        if (isWrong) {
            throw new Wrong(fault, place);
        }
    }

    int byteAt(int where) {
        return bytes[where] & 255;
    }

    Constant constant(int number, int tag) {
        Constant constant = constants.get(number);
        return constant != null && constant.tag == tag ? constant : null;
    }

    private String textOf(int number) {
        Constant constant = constant(number, 1);
        return constant == null ? null : constant.text;
    }

    String classText(int number) {
        return textOf(constants.get(number).first);
    }

    String nameOf(Member member) {
        return textOf(member.name);
    }

    String typeOf(Member member) {
        return textOf(member.type);
    }

    /** Of a FIELD or a METHOD of the CONSTANTS. */
    String usedName(Constant use) {
        return textOf(constants.get(use.second).first);
    }

    String usedType(Constant use) {
        return textOf(constants.get(use.second).second);
    }

    // I. READING.

    private void need(long many) {
        if (many > end - at) {
            throw shortage != null ? shortage : new Wrong(ShippedClass.SHORT, at);
        }
    }

    private long number(int width) {
        need(width);
        long value = 0;
        for (int i = 0; i < width; i++) {
            value = value << 8 | byteAt(at);
            at++;
        }
        return value;
    }

    private int two() {
        return (int) number(2);
    }

    private void read() {
        wrongIf(number(4) != 0xCAFEBABEL, ShippedClass.MAGIC, 0);
        two();
        int version = two();
        wrongIf(version < 45 || version > 65, ShippedClass.VERSION, 6);
        n = two();
        int next = 1;
        while (next < n) {
            Constant constant = readConstant();
            constants.put(next, constant);
            next += constant.tag == 5 ? 2 : 1;
        }
        two();
        selfAt = at;
        self = two();
        parent = two();
        int many = two();
        for (int i = 0; i < many; i++) {
            interfaces.add(two());
        }
        readMembers(fields, false);
        methodsAt = at;
        readMembers(methods, true);
        readAttributes(null);
        wrongIf(at < bytes.length, ShippedClass.MORE, at);
    }

    private Constant readConstant() {
        int from = at;
        int tag = (int) number(1);
        switch (tag) {
            case 1:
                return new Constant(tag, from, readText(), 0, 0);
            case 3:
                number(4);
                return new Constant(tag, from, null, 0, 0);
            case 5:
                number(4);
                number(4);
                return new Constant(tag, from, null, 0, 0);
            case 7:
            case 8:
                return new Constant(tag, from, null, two(), 0);
            case 9:
            case 10:
            case 12:
                return new Constant(tag, from, null, two(), two());
            default:
                throw new Wrong(ShippedClass.TAG, from);
        }
    }

    private String readText() {
        int length = two();
        need(length);
        StringBuilder text = new StringBuilder();
        for (int i = 0; i < length; i++) {
            int letter = (int) number(1);
            wrongIf(letter < 1 || letter > 127, ShippedClass.TEXT, at - 1);
            text.append((char) letter);
        }
        return text.toString();
    }

    private void readMembers(List<Member> members, boolean areMethods) {
        int many = two();
        for (int i = 0; i < many; i++) {
            Member member = new Member(at, two(), two(), two(), new ArrayList<>());
            readAttributes(areMethods ? member : null);
            members.add(member);
        }
    }

    private void readAttributes(Member method) {
        int many = two();
        for (int i = 0; i < many; i++) {
            int from = at;
            String name = textOf(two());
            wrongIf(name == null, ShippedClass.REFERENCE, from);
            long length = number(4);
            need(length);
            int behind = at + (int) length;
            if (method != null && name.equals("Code")) {
                wrongIf(!method.codes.isEmpty(), ShippedClass.TWICE, from);
                readCode(method, new Wrong(ShippedClass.ATTRIBUTE, from), behind);
            }
            at = behind;
        }
    }

    private void readCode(Member method, Wrong isNoCode, int behind) {
        shortage = isNoCode;
        end = behind;
        int stack = two();
        int locals = two();
        long length = number(4);
        need(length);
        int from = at;
        at += (int) length;
        List<Handler> handlers = new ArrayList<>();
        int many = two();
        for (int i = 0; i < many; i++) {
            handlers.add(new Handler(at, two(), two(), two(), two()));
        }
        readAttributes(null);
        if (at < behind || length == 0) {
            throw isNoCode;
        }
        shortage = null;
        end = bytes.length;
        method.codes.add(new Code(stack, locals, from, (int) length, handlers));
    }

    // II. LINKING.

    private static boolean isAll(Pattern pattern, String text) {
        return pattern.matcher(text).matches();
    }

    private void link() {
        for (Constant constant : constants.values()) {
            linkConstant(constant);
        }
        for (Constant constant : constants.values()) {
            wrongIf(!isUseRight(constant), ShippedClass.DESCRIPTOR, constant.place);
        }
        mustBeClass(self, selfAt);
        mustBeClass(parent, selfAt + 2);
        for (int k = 0; k < interfaces.size(); k++) {
            mustBeClass(interfaces.get(k), selfAt + 6 + 2 * k);
        }
        linkMembers(fields, false);
        linkMembers(methods, true);
    }

    private void linkConstant(Constant constant) {
        int where = constant.place;
        String first = textOf(constant.first);
        String second = textOf(constant.second);
        switch (constant.tag) {
            case 7:
                wrongIf(first == null, ShippedClass.REFERENCE, where);
                wrongIf(!isAll(NAMES, first), ShippedClass.NAME, where);
                break;
            case 8:
                wrongIf(first == null, ShippedClass.REFERENCE, where);
                break;
            case 9:
            case 10:
                wrongIf(constant(constant.first, 7) == null, ShippedClass.REFERENCE, where);
                wrongIf(constant(constant.second, 12) == null, ShippedClass.REFERENCE, where);
                break;
            case 12:
                wrongIf(first == null || second == null, ShippedClass.REFERENCE, where);
                wrongIf(!isAll(ONE_NAME, first) && !first.equals("<init>"), ShippedClass.NAME, where);
                boolean isType = isAll(ONE_TYPE, second) || isAll(METHOD_TYPE, second);
                wrongIf(!isType, ShippedClass.DESCRIPTOR, where);
                break;
            default:
                break;
        }
    }

    private boolean isUseRight(Constant use) {
        if (use.tag == 9) {
            return !usedName(use).equals("<init>") && isAll(ONE_TYPE, usedType(use));
        }
        return use.tag != 10 || isMethodType(usedName(use), usedType(use));
    }

    private static boolean isMethodType(String name, String type) {
        return isAll(METHOD_TYPE, type) && (!name.equals("<init>") || type.endsWith(")V"));
    }

    private void mustBeClass(int number, int where) {
        wrongIf(constant(number, 7) == null, ShippedClass.REFERENCE, where);
    }

    private void linkMembers(List<Member> members, boolean areMethods) {
        List<String> before = new ArrayList<>();
        for (Member member : members) {
            String name = nameOf(member);
            String type = typeOf(member);
            wrongIf(name == null || type == null, ShippedClass.REFERENCE, member.place);
            boolean isOwnName = areMethods && (name.equals("<init>") || name.equals("<clinit>"));
            wrongIf(!isAll(ONE_NAME, name) && !isOwnName, ShippedClass.NAME, member.place);
            boolean isType = areMethods ? isMethodType(name, type) : isAll(ONE_TYPE, type);
            wrongIf(!isType, ShippedClass.DESCRIPTOR, member.place);
            // A space is in no NAME.
            wrongIf(before.contains(name + " " + type), ShippedClass.TWICE, member.place);
            before.add(name + " " + type);
            boolean mustHaveCode = (member.flags & 0x400) == 0 && (member.flags & 0x100) == 0;
            wrongIf(areMethods && member.codes.isEmpty() == mustHaveCode, ShippedClass.CODE, member.place);
        }
    }

    // III. POLICY.

    private static boolean isBegunByOne(List<String> texts, String text) {
        for (String begin : texts) {
            if (text.startsWith(begin)) {
                return true;
            }
        }
        return false;
    }

    private void admit(Rules rules) {
        wrongIf(methods.size() > rules.mostMethods, ShippedClass.LIMIT, methodsAt);
        wrongIf(isBegunByOne(rules.guarded, classText(self)), ShippedClass.PROTECTED, selfAt);
        for (Constant use : constants.values()) {
            if (use.tag == 9 || use.tag == 10) {
                String owner = classText(use.first);
                boolean isFree = owner.equals(classText(self)) || isBegunByOne(rules.allowed, owner);
                wrongIf(!isFree, ShippedClass.FORBIDDEN, use.place);
            }
        }
        for (Member method : methods) {
            wrongIf((method.flags & 0x100) != 0, ShippedClass.NATIVE, method.place);
            boolean isFinalizer = nameOf(method).equals("finalize") && typeOf(method).equals("()V");
            wrongIf(isFinalizer, ShippedClass.FINALIZER, method.place);
            for (Code code : method.codes) {
                boolean isMore = code.length > rules.mostBytes || code.stack > 64 || code.locals > 64;
                wrongIf(isMore, ShippedClass.LIMIT, method.place);
            }
        }
    }

    // IV. VERIFYING.

    private void verify() {
        for (Member method : methods) {
            codes.add(new PlainCode(this, method));
        }
    }

    static char kindOf(char letter) {
        return "BCISZ".indexOf(letter) >= 0 ? 'I' : letter == 'J' ? 'J' : letter == 'L' || letter == '[' ? 'A' : 'U';
    }

    /** The first letters of the TYPES between ( and ), and then that of what is answered. */
    static String lettersOf(String methodType) {
        StringBuilder letters = new StringBuilder();
        Matcher types = ONE_TYPE.matcher(methodType);
        int from = 1;
        while (methodType.charAt(from) != ')') {
            letters.append(methodType.charAt(from));
            from = types.region(from, methodType.length()).lookingAt() ? types.end() : from + 1;
        }
        return letters.append(methodType.charAt(from + 1)).toString();
    }
}
