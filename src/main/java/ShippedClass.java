import java.util.Arrays;

/**
 * Looks through the bytes of a class file before anything of it is let in.
 * The rules are the numbered promises of the document; words in capitals are its terms.
 */
public final class ShippedClass {
    public static final int NONE = -1;
    public static final int SHORT = 1;
    public static final int MAGIC = 2;
    public static final int VERSION = 3;
    public static final int TAG = 4;
    public static final int TEXT = 5;
    public static final int REFERENCE = 6;
    public static final int TWICE = 7;
    public static final int ATTRIBUTE = 8;
    public static final int MORE = 9;
    public static final int NAME = 10;
    public static final int DESCRIPTOR = 11;
    public static final int CODE = 12;
    public static final int LIMIT = 13;
    public static final int PROTECTED = 14;
    public static final int FORBIDDEN = 15;
    public static final int NATIVE = 16;
    public static final int FINALIZER = 17;
    public static final int OPCODE = 18;
    public static final int FALL = 19;
    public static final int HANDLER = 20;
    public static final int LOCAL = 21;
    public static final int STACK = 22;
    public static final int KIND = 23;
    public static final int TARGET = 24;
    public static final int FRAME = 25;

    private static final int MOST_BYTES = 600;
    private static final int MOST_FED = 16;
    // A CONSTANT has three bytes at least, a MEMBER eight: more of them can't be read out of 600.
    private static final int MOST_NUMBERS = 200;
    private static final int MOST_MEMBERS = 75;
    private static final int MOST_SLOTS = 64;

    private static final int TEXT_TAG = 1;
    private static final int INT_TAG = 3;
    private static final int LONG_TAG = 5;
    private static final int CLASS_TAG = 7;
    private static final int STRING_TAG = 8;
    private static final int FIELD_TAG = 9;
    private static final int METHOD_TAG = 10;
    private static final int PAIR_TAG = 12;

    private static final int U = 0;
    private static final int I = 1;
    private static final int J = 2;
    private static final int H = 3;
    private static final int A = 4;

    private static final int STATIC_FLAG = 0x8;
    private static final int NATIVE_FLAG = 0x100;
    private static final int ABSTRACT_FLAG = 0x400;

    private static final String INIT = "<init>";

    private final Image bytes = new Image();
    private final Finding finding = new Finding();
    private final Policy policy = new Policy();
    private final Reader reader = new Reader();
    private final Linker linker = new Linker();
    private final Verifier verifier = new Verifier();
    // Two of them change places, so that a later audit with a FAULT leaves the last good one whole.
    private Layout work = new Layout();
    private Layout good = new Layout();
    private boolean isGood;

    public ShippedClass() {
    }

    public int feed(int many, int a, int b, int c, int d) throws IllegalArgumentException, IllegalStateException {
        if (many < 0 || many > MOST_FED) {
            throw new IllegalArgumentException();
        }
        if (bytes.size + many > MOST_BYTES) {
            throw new IllegalStateException();
        }
        for (int i = 0; i < many; i++) {
            int four = i < 4 ? a : i < 8 ? b : i < 12 ? c : d;
            bytes.add(four >>> (24 - 8 * (i & 3)));
        }
        return bytes.size;
    }

    public int put(int place, int value) throws IndexOutOfBoundsException, IllegalArgumentException {
        if (place < 0 || place >= bytes.size) {
            throw new IndexOutOfBoundsException();
        }
        if (value < 0 || value > 255) {
            throw new IllegalArgumentException();
        }
        int old = bytes.oneAt(place);
        bytes.change(place, value);
        return old;
    }

    public int cut(int n) throws IllegalArgumentException {
        if (n < 0 || n > bytes.size) {
            throw new IllegalArgumentException();
        }
        int gone = bytes.size - n;
        bytes.size = n;
        return gone;
    }

    public int rule(boolean isAllowed, int n) throws IllegalArgumentException, IllegalStateException {
        if (n < 1 || n > Policy.MOST_LETTERS || n > bytes.size || !bytes.isWritten(bytes.size - n)) {
            throw new IllegalArgumentException();
        }
        int sort = isAllowed ? Policy.ALLOWED_SORT : Policy.PROTECTED_SORT;
        if (policy.isFull(sort)) {
            throw new IllegalStateException();
        }
        policy.learn(sort, bytes, n);
        bytes.size -= n;
        return policy.many[sort];
    }

    public int limit(int what, int n) throws IllegalArgumentException {
        if (what < 0 || what > 1 || n < 0 || n > MOST_BYTES) {
            throw new IllegalArgumentException();
        }
        int old = what == 0 ? policy.mostMethods : policy.mostInstructionBytes;
        if (what == 0) {
            policy.mostMethods = n;
        } else {
            policy.mostInstructionBytes = n;
        }
        return old;
    }

    public int audit() {
        work.begin(bytes);
        finding.clear();
        if (reader.reads(work, finding) && linker.links(work, finding)
                && policy.admits(work, finding) && verifier.verifies(work, finding)) {
            Layout last = good;
            good = work;
            work = last;
            isGood = true;
        }
        return finding.fault;
    }

    public int place() {
        return finding.at;
    }

    public int count(int what) throws IllegalStateException, IllegalArgumentException {
        if (!isGood) {
            throw new IllegalStateException();
        }
        if (what < 0 || what > 6) {
            throw new IllegalArgumentException();
        }
        switch (what) {
            case 0: return Math.max(good.numbers - 1, 0);
            case 1: return good.interfaces;
            case 2: return good.fields;
            case 3: return good.methods;
            case 4: return good.instructionBytes();
            case 5: return good.frames.howMany();
            default: return good.frames.deepest();
        }
    }

    public char text(int what, int k, int i) throws IllegalStateException, IllegalArgumentException {
        if (!isGood) {
            throw new IllegalStateException();
        }
        if (what < 0 || what > 6) {
            throw new IllegalArgumentException();
        }
        return good.letterOf(good.textNumber(what, k), i);
    }

    public int depth(int method, int at) throws IllegalStateException {
        if (!isGood) {
            throw new IllegalStateException();
        }
        return good.frames.deepAt(good.instructionAt(method, at));
    }

    public int kind(int method, int at, boolean local, int i) throws IllegalStateException {
        if (!isGood) {
            throw new IllegalStateException();
        }
        int where = good.instructionAt(method, at);
        int deep = good.frames.deepAt(where);
        int many = local ? good.localsOf(method) : deep;
        if (deep == NONE || i < 0 || i >= many) {
            return NONE;
        }
        return good.frames.kindAt(where, local ? MOST_SLOTS + i : i);
    }

    /** Bytes with numbers in them, the highest byte first. */
    private static final class Image {
        private final byte[] row = new byte[MOST_BYTES];
        private int size;

        void add(int value) {
            if (size < MOST_BYTES) {
                row[size] = (byte) value;
                size++;
            }
        }

        void change(int at, int value) {
            if (at >= 0 && at < size) {
                row[at] = (byte) value;
            }
        }

        void copyFrom(Image other) {
            System.arraycopy(other.row, 0, row, 0, MOST_BYTES);
            size = other.size;
        }

        int oneAt(int at) {
            return at >= 0 && at < size ? row[at] & 255 : 0;
        }

        int twoAt(int at) {
            return oneAt(at) << 8 | oneAt(at + 1);
        }

        long fourAt(int at) {
            int high = oneAt(at) << 8 | oneAt(at + 1);
            int low = oneAt(at + 2) << 8 | oneAt(at + 3);
            return (long) high << 16 | low;
        }

        boolean holds(int at, long many) {
            return at >= 0 && many >= 0 && many <= size - at;
        }

        /** Whether all bytes from there on may stand in a text of the policy. */
        boolean isWritten(int from) {
            for (int at = from; at < size; at++) {
                int letter = oneAt(at);
                if (letter < 33 || letter > 126) {
                    return false;
                }
            }
            return true;
        }
    }

    /** The first thing that is wrong. */
    private static final class Finding {
        private int fault;
        private int at = NONE;

        void clear() {
            fault = 0;
            at = NONE;
        }

        /** Answers false, so that a step can end with what it has found. */
        boolean tell(int newFault, int place) {
            fault = newFault;
            at = place;
            return false;
        }
    }

    /** What an audit reads: where everything is within its own copy of the bytes. */
    private static final class Layout {
        private final Image image = new Image();
        private final Frames frames = new Frames();
        private final int[] tags = new int[MOST_NUMBERS];
        private final int[] constantAt = new int[MOST_NUMBERS];
        private final int[] firsts = new int[MOST_NUMBERS];
        private final int[] seconds = new int[MOST_NUMBERS];
        private final int[] fieldAt = new int[MOST_MEMBERS];
        private final int[] methodAt = new int[MOST_MEMBERS];
        private final int[] codeAt = new int[MOST_MEMBERS];
        private int numbers;
        private int thisAt;
        private int interfaces;
        private int fields;
        private int methods;
        private int methodsAt;

        void begin(Image bytes) {
            image.copyFrom(bytes);
            frames.clear();
            Arrays.fill(tags, 0);
            Arrays.fill(codeAt, 0);
            numbers = 0;
            interfaces = 0;
            fields = 0;
            methods = 0;
        }

        void addConstant(int k, int tag, int at) {
            if (k > 0 && k < MOST_NUMBERS) {
                tags[k] = tag;
                constantAt[k] = at;
                firsts[k] = image.twoAt(at + 1);
                seconds[k] = image.twoAt(at + 3);
            }
        }

        void addMember(boolean isMethod, int at) {
            if (isMethod && methods < MOST_MEMBERS) {
                methodAt[methods] = at;
                methods++;
            } else if (!isMethod && fields < MOST_MEMBERS) {
                fieldAt[fields] = at;
                fields++;
            }
        }

        int tagOf(int k) {
            return k > 0 && k < MOST_NUMBERS ? tags[k] : 0;
        }

        int placeOf(int k) {
            return k > 0 && k < MOST_NUMBERS ? constantAt[k] : 0;
        }

        /** The first u2 behind the tag: what is told there, or how long a TEXT is. */
        int firstOf(int k) {
            return k > 0 && k < MOST_NUMBERS ? firsts[k] : 0;
        }

        int secondOf(int k) {
            return k > 0 && k < MOST_NUMBERS ? seconds[k] : 0;
        }

        int textFrom(int k) {
            return placeOf(k) + 3;
        }

        int textEnd(int k) {
            return placeOf(k) + 3 + firstOf(k);
        }

        /** The TEXT of the CLASS whose number stands at a PLACE. */
        int classTextAt(int at) {
            return firstOf(image.twoAt(at));
        }

        int interfaceAt(int k) {
            return thisAt + 6 + 2 * k;
        }

        int memberAt(boolean isMethod, int k) {
            if (k < 0 || k >= (isMethod ? methods : fields)) {
                return NONE;
            }
            return isMethod ? methodAt[k] : fieldAt[k];
        }

        int nameAt(int member) {
            return image.twoAt(member + 2);
        }

        int typeAt(int member) {
            return image.twoAt(member + 4);
        }

        /** The PLACE of the CODE, or 0 where there is none. */
        int codeOf(int method) {
            return method >= 0 && method < methods ? codeAt[method] : 0;
        }

        void addCode(int method, int at) {
            if (method >= 0 && method < methods) {
                codeAt[method] = at;
            }
        }

        int stackOf(int method) {
            return image.twoAt(codeOf(method) + 6);
        }

        int localsOf(int method) {
            return image.twoAt(codeOf(method) + 8);
        }

        int instructionsAt(int method) {
            return codeOf(method) + 14;
        }

        int lengthOf(int method) {
            return codeOf(method) == 0 ? 0 : (int) image.fourAt(codeOf(method) + 10);
        }

        int instructionBytes() {
            int all = 0;
            for (int k = 0; k < methods; k++) {
                all += lengthOf(k);
            }
            return all;
        }

        int instructionAt(int method, int at) {
            return at >= 0 && at < lengthOf(method) ? instructionsAt(method) + at : NONE;
        }

        /** The TEXT that a call asks for, or 0 where there is none. */
        int textNumber(int what, int k) {
            if (what < 2) {
                return classTextAt(thisAt + 2 * what);
            }
            if (what == 2) {
                return k >= 0 && k < interfaces ? classTextAt(interfaceAt(k)) : 0;
            }
            int member = memberAt(what > 4, k);
            if (member == NONE) {
                return 0;
            }
            return what == 3 || what == 5 ? nameAt(member) : typeAt(member);
        }

        char letterOf(int k, int i) {
            if (k == 0 || i < 0 || i >= firstOf(k)) {
                return ' ';
            }
            return (char) image.oneAt(textFrom(k) + i);
        }

        boolean spells(int k, String word) {
            int from = placeOf(k) + 3;
            if (firstOf(k) != word.length()) {
                return false;
            }
            for (int i = 0; i < word.length(); i++) {
                if (image.oneAt(from + i) != word.charAt(i)) {
                    return false;
                }
            }
            return true;
        }

        boolean isSame(int one, int other) {
            int length = firstOf(one);
            int oneFrom = textFrom(one);
            int otherFrom = textFrom(other);
            if (length != firstOf(other)) {
                return false;
            }
            for (int i = 0; i < length; i++) {
                if (image.oneAt(oneFrom + i) != image.oneAt(otherFrom + i)) {
                    return false;
                }
            }
            return true;
        }
    }

    /** I. READING. */
    private static final class Reader {
        private Layout layout;
        private Image image;
        private Finding finding;
        private int at;

        boolean reads(Layout newLayout, Finding newFinding) {
            layout = newLayout;
            image = newLayout.image;
            finding = newFinding;
            at = 0;
            if (!readHead() || !readConstants() || !readClasses() || !readMembers(false) || !readMembers(true)) {
                return false;
            }
            if (!readAttributes(NONE)) {
                return false;
            }
            return at == image.size || finding.tell(MORE, at);
        }

        private boolean passes(long many) {
            if (!image.holds(at, many)) {
                return finding.tell(SHORT, at);
            }
            at += (int) many;
            return true;
        }

        private boolean passesNumbers(int many, int length) {
            for (int i = 0; i < many; i++) {
                if (!passes(length)) {
                    return false;
                }
            }
            return true;
        }

        private boolean readHead() {
            if (!passes(4)) {
                return false;
            }
            if (image.fourAt(0) != 0xCAFEBABEL) {
                return finding.tell(MAGIC, 0);
            }
            if (!passesNumbers(2, 2)) {
                return false;
            }
            int version = image.twoAt(6);
            if (version < 45 || version > 65) {
                return finding.tell(VERSION, 6);
            }
            layout.numbers = image.twoAt(8);
            return passes(2);
        }

        private boolean readConstants() {
            int k = 1;
            while (k < layout.numbers) {
                int from = at;
                int tag = image.oneAt(from);
                if (!passes(1) || !readConstant(tag)) {
                    return false;
                }
                layout.addConstant(k, tag, from);
                k += tag == LONG_TAG ? 2 : 1;
            }
            return true;
        }

        private boolean readConstant(int tag) {
            switch (tag) {
                case TEXT_TAG:
                    return readText();
                case INT_TAG:
                    return passes(4);
                case LONG_TAG:
                    return passesNumbers(2, 4);
                case CLASS_TAG:
                case STRING_TAG:
                    return passes(2);
                case FIELD_TAG:
                case METHOD_TAG:
                case PAIR_TAG:
                    return passesNumbers(2, 2);
                default:
                    return finding.tell(TAG, at - 1);
            }
        }

        private boolean readText() {
            int length = image.twoAt(at);
            if (!passes(2)) {
                return false;
            }
            int from = at;
            if (!passes(length)) {
                return false;
            }
            for (int i = from; i < at; i++) {
                int letter = image.oneAt(i);
                if (letter < 1 || letter > 127) {
                    return finding.tell(TEXT, i);
                }
            }
            return true;
        }

        private boolean readClasses() {
            layout.thisAt = at + 2;
            if (!passesNumbers(3, 2)) {
                return false;
            }
            layout.interfaces = image.twoAt(at);
            // The number itself is one more of them.
            return passesNumbers(1 + layout.interfaces, 2);
        }

        private boolean readMembers(boolean isMethod) {
            int many = image.twoAt(at);
            if (isMethod) {
                layout.methodsAt = at;
            }
            if (!passes(2)) {
                return false;
            }
            for (int k = 0; k < many; k++) {
                int member = at;
                if (!passesNumbers(3, 2)) {
                    return false;
                }
                layout.addMember(isMethod, member);
                if (!readAttributes(isMethod ? k : NONE)) {
                    return false;
                }
            }
            return true;
        }

        /** Those of a METHOD, or of what can have no CODE (NONE). */
        private boolean readAttributes(int method) {
            int many = image.twoAt(at);
            if (!passes(2)) {
                return false;
            }
            for (int k = 0; k < many; k++) {
                int from = at;
                if (!readAttribute()) {
                    return false;
                }
                if (method != NONE && layout.spells(image.twoAt(from), "Code") && !readCode(from, method)) {
                    return false;
                }
            }
            return true;
        }

        private boolean readAttribute() {
            int from = at;
            if (!passes(2)) {
                return false;
            }
            if (layout.tagOf(image.twoAt(from)) != TEXT_TAG) {
                return finding.tell(REFERENCE, from);
            }
            return passes(4) && passes(image.fourAt(from + 2));
        }

        /** The bytes of the CODE are all there, and end before at. */
        private boolean readCode(int code, int method) {
            if (layout.codeOf(method) != 0) {
                return finding.tell(TWICE, code);
            }
            layout.addCode(method, code);
            int from = code + 14;
            long length = image.fourAt(code + 10);
            if (from > at || length > at - from) {
                return finding.tell(ATTRIBUTE, code);
            }
            int handlersAt = from + (int) length;
            if (handlersAt + 2 > at) {
                return finding.tell(ATTRIBUTE, code);
            }
            int attributesAt = handlersAt + 2 + 8 * image.twoAt(handlersAt);
            if (attributesAt + 2 > at) {
                return finding.tell(ATTRIBUTE, code);
            }
            int end = behindAttributesOfCode(attributesAt);
            if (finding.fault != 0) {
                return false;
            }
            return end == at && length > 0 || finding.tell(ATTRIBUTE, code);
        }

        /** The PLACE behind them; NONE if they are not within the CODE, or a name is told to be wrong. */
        private int behindAttributesOfCode(int attributesAt) {
            int many = image.twoAt(attributesAt);
            int next = attributesAt + 2;
            for (int k = 0; k < many; k++) {
                if (next + 2 > at) {
                    return NONE;
                }
                if (layout.tagOf(image.twoAt(next)) != TEXT_TAG) {
                    finding.tell(REFERENCE, next);
                    return NONE;
                }
                if (next + 6 > at || image.fourAt(next + 2) > at - next - 6) {
                    return NONE;
                }
                next += 6 + (int) image.fourAt(next + 2);
            }
            return next;
        }
    }

    /** What a NAME, a TYPE and a METHOD TYPE are. */
    private static final class Grammar {
        private Grammar() {
        }

        static boolean isNameLetter(int letter) {
            switch (letter) {
                case '.':
                case ';':
                case '[':
                case '/':
                case '<':
                case '>':
                    return false;
                default:
                    return letter > 32;
            }
        }

        static boolean isName(Image image, int from, int end) {
            for (int at = from; at < end; at++) {
                if (!isNameLetter(image.oneAt(at))) {
                    return false;
                }
            }
            return end > from;
        }

        /** Where NAMES with / between end; NONE if one of them has no character. */
        static int behindNames(Image image, int from, int end) {
            int begin = from;
            int at = from;
            while (at < end) {
                int letter = image.oneAt(at);
                if (letter == '/' && at > begin) {
                    begin = at + 1;
                } else if (!isNameLetter(letter)) {
                    break;
                }
                at++;
            }
            return at > begin ? at : NONE;
        }

        /** Where the TYPE that begins there ends; NONE if none does. */
        static int behindType(Image image, int from, int end) {
            int at = from;
            while (at < end && image.oneAt(at) == '[') {
                at++;
            }
            if (at >= end) {
                return NONE;
            }
            int letter = image.oneAt(at);
            if (letter == 'L') {
                int semicolon = behindNames(image, at + 1, end);
                boolean isClosed = semicolon != NONE && semicolon < end && image.oneAt(semicolon) == ';';
                return isClosed ? semicolon + 1 : NONE;
            }
            return letter == 'D' || letter == 'F' || kindOf(letter) == I || letter == 'J' ? at + 1 : NONE;
        }

        static boolean isType(Layout layout, int text) {
            int end = layout.textEnd(text);
            return behindType(layout.image, layout.textFrom(text), end) == end;
        }

        static boolean isMethodType(Layout layout, int text) {
            Image image = layout.image;
            int end = layout.textEnd(text);
            int at = layout.textFrom(text);
            if (at >= end || image.oneAt(at) != '(') {
                return false;
            }
            at++;
            for (int i = 0; i < MOST_BYTES && at != NONE && at < end && image.oneAt(at) != ')'; i++) {
                at = behindType(image, at, end);
            }
            if (at == NONE || at + 1 >= end) {
                return false;
            }
            boolean isNothing = image.oneAt(at + 1) == 'V' && at + 2 == end;
            return isNothing || behindType(image, at + 1, end) == end;
        }

        /** The KIND of a TYPE that begins with this letter; U also for what is no TYPE. */
        static int kindOf(int letter) {
            switch (letter) {
                case 'B':
                case 'C':
                case 'I':
                case 'S':
                case 'Z':
                    return I;
                case 'J':
                    return J;
                case 'L':
                case '[':
                    return A;
                default:
                    return U;
            }
        }
    }

    /** II. LINKING. */
    private static final class Linker {
        private Layout layout;
        private Image image;
        private Finding finding;

        boolean links(Layout newLayout, Finding newFinding) {
            layout = newLayout;
            image = newLayout.image;
            finding = newFinding;
            for (int k = 1; k < layout.numbers; k++) {
                int fault = faultOfConstant(k);
                if (fault != 0) {
                    return finding.tell(fault, layout.placeOf(k));
                }
            }
            for (int k = 1; k < layout.numbers; k++) {
                if (!isUseRight(k)) {
                    return finding.tell(DESCRIPTOR, layout.placeOf(k));
                }
            }
            return areClassesRight() && areMembersRight(false) && areMembersRight(true);
        }

        private int faultOfConstant(int k) {
            int first = layout.firstOf(k);
            switch (layout.tagOf(k)) {
                case CLASS_TAG:
                    if (!isText(first)) {
                        return REFERENCE;
                    }
                    int end = layout.textEnd(first);
                    return Grammar.behindNames(image, layout.textFrom(first), end) == end ? 0 : NAME;
                case STRING_TAG:
                    return isText(first) ? 0 : REFERENCE;
                case FIELD_TAG:
                case METHOD_TAG:
                    boolean isLinked = layout.tagOf(first) == CLASS_TAG && layout.tagOf(layout.secondOf(k)) == PAIR_TAG;
                    return isLinked ? 0 : REFERENCE;
                case PAIR_TAG:
                    return faultOfPair(first, layout.secondOf(k));
                default:
                    return 0;
            }
        }

        private int faultOfPair(int name, int type) {
            if (!isText(name) || !isText(type)) {
                return REFERENCE;
            }
            if (!isName(name) && !layout.spells(name, INIT)) {
                return NAME;
            }
            return Grammar.isType(layout, type) || Grammar.isMethodType(layout, type) ? 0 : DESCRIPTOR;
        }

        private boolean isText(int k) {
            return layout.tagOf(k) == TEXT_TAG;
        }

        private boolean isName(int k) {
            return Grammar.isName(image, layout.textFrom(k), layout.textEnd(k));
        }

        /** Whether a FIELD or a METHOD of the CONSTANTS has the PAIR that it must have. */
        private boolean isUseRight(int k) {
            int tag = layout.tagOf(k);
            if (tag != FIELD_TAG && tag != METHOD_TAG) {
                return true;
            }
            int pair = layout.secondOf(k);
            int name = layout.firstOf(pair);
            int type = layout.secondOf(pair);
            if (tag == FIELD_TAG) {
                return !layout.spells(name, INIT) && Grammar.isType(layout, type);
            }
            return Grammar.isMethodType(layout, type) && mayMake(name, type);
        }

        /** Nothing is answered by what makes an object. */
        private boolean mayMake(int name, int type) {
            return !layout.spells(name, INIT) || image.oneAt(layout.textEnd(type) - 1) == 'V';
        }

        private boolean areClassesRight() {
            if (!isClassAt(layout.thisAt) || !isClassAt(layout.thisAt + 2)) {
                return false;
            }
            for (int k = 0; k < layout.interfaces; k++) {
                if (!isClassAt(layout.interfaceAt(k))) {
                    return false;
                }
            }
            return true;
        }

        private boolean isClassAt(int at) {
            return layout.tagOf(image.twoAt(at)) == CLASS_TAG || finding.tell(REFERENCE, at);
        }

        private boolean areMembersRight(boolean isMethod) {
            int many = isMethod ? layout.methods : layout.fields;
            for (int k = 0; k < many; k++) {
                int fault = faultOfMember(isMethod, k);
                if (fault != 0) {
                    return finding.tell(fault, layout.memberAt(isMethod, k));
                }
            }
            return true;
        }

        private int faultOfMember(boolean isMethod, int k) {
            int member = layout.memberAt(isMethod, k);
            int name = layout.nameAt(member);
            int type = layout.typeAt(member);
            if (!isText(name) || !isText(type)) {
                return REFERENCE;
            }
            boolean isOwnName = isMethod && (layout.spells(name, INIT) || layout.spells(name, "<clinit>"));
            if (!isOwnName && !isName(name)) {
                return NAME;
            }
            boolean isRight = isMethod ? Grammar.isMethodType(layout, type) && mayMake(name, type)
                    : Grammar.isType(layout, type);
            if (!isRight) {
                return DESCRIPTOR;
            }
            if (isThereBefore(isMethod, k)) {
                return TWICE;
            }
            if (!isMethod) {
                return 0;
            }
            boolean isBare = (image.twoAt(member) & (ABSTRACT_FLAG | NATIVE_FLAG)) != 0;
            return isBare == (layout.codeOf(k) == 0) ? 0 : CODE;
        }

        private boolean isThereBefore(boolean isMethod, int k) {
            int member = layout.memberAt(isMethod, k);
            for (int i = 0; i < k; i++) {
                int other = layout.memberAt(isMethod, i);
                if (layout.isSame(layout.nameAt(member), layout.nameAt(other))
                        && layout.isSame(layout.typeAt(member), layout.typeAt(other))) {
                    return true;
                }
            }
            return false;
        }
    }

    /** III. POLICY. */
    private static final class Policy {
        private static final int PROTECTED_SORT = 0;
        private static final int ALLOWED_SORT = 1;
        private static final int MOST_TEXTS = 6;
        private static final int MOST_LETTERS = 40;

        private final byte[] letters = new byte[2 * MOST_TEXTS * MOST_LETTERS];
        private final int[] lengths = new int[2 * MOST_TEXTS];
        private final int[] many = new int[2];
        private int mostMethods = 16;
        private int mostInstructionBytes = 200;

        boolean isFull(int sort) {
            return many[sort] >= MOST_TEXTS;
        }

        /** The last n bytes become a text; the caller has looked at n and at isFull. */
        void learn(int sort, Image bytes, int n) {
            int row = sort * MOST_TEXTS + many[sort];
            int from = bytes.size - n;
            for (int i = 0; i < n && i < MOST_LETTERS; i++) {
                letters[row * MOST_LETTERS + i] = (byte) bytes.oneAt(from + i);
            }
            lengths[row] = n;
            many[sort]++;
        }

        private boolean isBegunBy(int sort, Layout layout, int text) {
            for (int k = 0; k < many[sort]; k++) {
                if (isBegunByRow(sort * MOST_TEXTS + k, layout, text)) {
                    return true;
                }
            }
            return false;
        }

        private boolean isBegunByRow(int row, Layout layout, int text) {
            int length = lengths[row];
            if (layout.firstOf(text) < length) {
                return false;
            }
            int from = layout.textFrom(text);
            for (int i = 0; i < length; i++) {
                if (layout.image.oneAt(from + i) != letters[row * MOST_LETTERS + i]) {
                    return false;
                }
            }
            return true;
        }

        boolean admits(Layout layout, Finding finding) {
            if (layout.methods > mostMethods) {
                return finding.tell(LIMIT, layout.methodsAt);
            }
            if (isBegunBy(PROTECTED_SORT, layout, layout.classTextAt(layout.thisAt))) {
                return finding.tell(PROTECTED, layout.thisAt);
            }
            for (int k = 1; k < layout.numbers; k++) {
                if (!mayUse(layout, k)) {
                    return finding.tell(FORBIDDEN, layout.placeOf(k));
                }
            }
            for (int k = 0; k < layout.methods; k++) {
                int fault = faultOfMethod(layout, k);
                if (fault != 0) {
                    return finding.tell(fault, layout.memberAt(true, k));
                }
            }
            return true;
        }

        private boolean mayUse(Layout layout, int k) {
            int tag = layout.tagOf(k);
            if (tag != FIELD_TAG && tag != METHOD_TAG) {
                return true;
            }
            int owner = layout.firstOf(layout.firstOf(k));
            return layout.isSame(owner, layout.classTextAt(layout.thisAt)) || isBegunBy(ALLOWED_SORT, layout, owner);
        }

        private int faultOfMethod(Layout layout, int k) {
            int member = layout.memberAt(true, k);
            if ((layout.image.twoAt(member) & NATIVE_FLAG) != 0) {
                return NATIVE;
            }
            if (layout.spells(layout.nameAt(member), "finalize") && layout.spells(layout.typeAt(member), "()V")) {
                return FINALIZER;
            }
            if (layout.codeOf(k) == 0) {
                return 0;
            }
            boolean isLarge = layout.lengthOf(k) > mostInstructionBytes
                    || layout.stackOf(k) > MOST_SLOTS || layout.localsOf(k) > MOST_SLOTS;
            return isLarge ? LIMIT : 0;
        }
    }

    /** The table of INSTRUCTIONS, as far as it is the same for every class file. */
    private static final class Opcodes {
        private Opcodes() {
        }

        private static boolean isWithin(int op, int low, int high) {
            return op >= low && op <= high;
        }

        /** With its operands; 0 if there is no such INSTRUCTION. */
        static int lengthOf(int op) {
            switch (op) {
                case 16:
                case 18:
                case 21:
                case 22:
                case 25:
                case 54:
                case 55:
                case 58:
                    return 2;
                case 17:
                case 20:
                case 132:
                case 187:
                case 192:
                case 193:
                case 198:
                case 199:
                    return 3;
                default:
                    if (isWithin(op, 153, 167) || isWithin(op, 178, 184)) {
                        return 3;
                    }
                    return isAlone(op) ? 1 : 0;
            }
        }

        private static boolean isAlone(int op) {
            switch (op) {
                case 92:
                case 95:
                case 133:
                case 136:
                case 172:
                case 173:
                case 176:
                case 177:
                case 190:
                case 191:
                    return true;
                default:
                    return isWithin(op, 0, 10) || isWithin(op, 26, 33) || isWithin(op, 42, 45)
                            || isWithin(op, 59, 66) || isWithin(op, 75, 78) || isWithin(op, 87, 89)
                            || isArithmetic(op) || isWithin(op, 145, 148);
            }
        }

        /** Up to 117 each comes in fours, for int, long, float and double, of which the first two are there. */
        private static boolean isArithmetic(int op) {
            return isWithin(op, 96, 117) && (op & 3) < 2 || isWithin(op, 120, 131);
        }

        static boolean tellsLocal(int op) {
            return op == 132 || isWithin(op, 21, 45) || isStore(op);
        }

        static boolean isStore(int op) {
            return isWithin(op, 54, 78);
        }

        /** Of one sort only, unlike 18. */
        static boolean tellsConstant(int op) {
            return op == 20 || op == 187 || op == 192 || op == 193 || isFieldUse(op) || isCall(op);
        }

        static boolean isFieldUse(int op) {
            return isWithin(op, 178, 181);
        }

        static boolean isCall(int op) {
            return isWithin(op, 182, 184);
        }

        static boolean isShuffle(int op) {
            return isWithin(op, 87, 95);
        }

        static boolean isReturn(int op) {
            return isWithin(op, 172, 177);
        }

        static boolean mayJump(int op) {
            return isWithin(op, 153, 167) || op == 198 || op == 199;
        }

        static boolean goesOn(int op) {
            return op != 167 && op != 191 && !isReturn(op);
        }

        /** The number of the LOCAL, which stands behind the opcode or in its last two bits. */
        static int localOf(int op, int behind) {
            if (isWithin(op, 26, 45)) {
                return (op - 26) & 3;
            }
            return isWithin(op, 59, 78) ? (op - 59) & 3 : behind;
        }

        static int localKindOf(int op) {
            if (op == 22 || op == 55 || isWithin(op, 30, 33) || isWithin(op, 63, 66)) {
                return J;
            }
            return op == 25 || op == 58 || isWithin(op, 42, 45) || isWithin(op, 75, 78) ? A : I;
        }

        static int tagOf(int op) {
            if (op == 20) {
                return LONG_TAG;
            }
            if (isFieldUse(op)) {
                return FIELD_TAG;
            }
            return isCall(op) ? METHOD_TAG : CLASS_TAG;
        }

        /** What is taken, the last first, then what is put, both in the letters of TYPES. */
        static String effectOf(int op) {
            if (isArithmetic(op)) {
                return effectOfArithmetic(op);
            }
            if (isWithin(op, 2, 8) || op == 16 || op == 17) {
                return ":I";
            }
            if (isWithin(op, 145, 147)) {
                return "I:I";
            }
            if (isWithin(op, 153, 158)) {
                return "I:";
            }
            if (isWithin(op, 159, 164)) {
                return "II:";
            }
            return effectOfRest(op);
        }

        private static String effectOfRest(int op) {
            switch (op) {
                case 1:
                case 187:
                    return ":L";
                case 9:
                case 10:
                case 20:
                    return ":J";
                case 133:
                    return "I:J";
                case 136:
                    return "J:I";
                case 148:
                    return "JJ:I";
                case 165:
                case 166:
                    return "LL:";
                case 172:
                    return "I:";
                case 173:
                    return "J:";
                case 176:
                case 191:
                case 198:
                case 199:
                    return "L:";
                case 190:
                case 193:
                    return "L:I";
                case 192:
                    return "L:L";
                default:
                    return ":";
            }
        }

        private static String effectOfArithmetic(int op) {
            boolean isLong = (op & 1) == 1;
            if (op == 116 || op == 117) {
                return isLong ? "J:J" : "I:I";
            }
            if (isWithin(op, 120, 125) && isLong) {
                return "IJ:J";
            }
            return isLong ? "JJ:J" : "II:I";
        }
    }

    /** One FRAME spread out, and what an INSTRUCTION does to it. Faults are told as numbers, 0 is none. */
    private static final class Machine {
        private final int[] stack = new int[MOST_SLOTS];
        private final int[] locals = new int[MOST_SLOTS];
        private final int[] letters = new int[MOST_BYTES];
        private Layout layout;
        private int deep;
        private int mostStack;
        private int mostLocals;
        private int manyTypes;
        private int answer;
        private int ownAnswer;
        private int word;

        /** The FRAME of INSTRUCTION 0: LOCAL if it has no room. */
        int begin(Layout newLayout, int method) {
            layout = newLayout;
            mostStack = Math.min(layout.stackOf(method), MOST_SLOTS);
            mostLocals = Math.min(layout.localsOf(method), MOST_SLOTS);
            deep = 0;
            Arrays.fill(locals, U);
            int member = layout.memberAt(true, method);
            int type = layout.typeAt(member);
            spreadTypes(layout.textFrom(type), layout.textEnd(type));
            ownAnswer = answer;
            boolean isStatic = (layout.image.twoAt(member) & STATIC_FLAG) != 0;
            int next = isStatic ? 0 : 1;
            if (next > mostLocals) {
                return LOCAL;
            }
            if (!isStatic) {
                locals[0] = A;
            }
            for (int i = 0; i < manyTypes; i++) {
                int width = letters[i] == 'J' || letters[i] == 'D' ? 2 : 1;
                if (next + width > mostLocals) {
                    return LOCAL;
                }
                setLocal(next, Grammar.kindOf(letters[i]));
                next += width;
            }
            return 0;
        }

        /** The first letters of the TYPES of a METHOD TYPE, and of its answer. */
        private void spreadTypes(int from, int end) {
            Image image = layout.image;
            int at = from + 1;
            manyTypes = 0;
            while (at < end && image.oneAt(at) != ')' && manyTypes < MOST_BYTES) {
                letters[manyTypes] = image.oneAt(at);
                manyTypes++;
                while (at < end && image.oneAt(at) == '[') {
                    at++;
                }
                if (image.oneAt(at) == 'L') {
                    while (at < end && image.oneAt(at) != ';') {
                        at++;
                    }
                }
                at++;
            }
            answer = image.oneAt(at + 1);
        }

        int act(int at) {
            Image image = layout.image;
            int op = image.oneAt(at);
            if (Opcodes.tellsLocal(op)) {
                return actOnLocal(op, image.oneAt(at + 1));
            }
            if (op == 18) {
                return putConstant(layout.tagOf(image.oneAt(at + 1)));
            }
            int constant = image.twoAt(at + 1);
            if (Opcodes.tellsConstant(op) && layout.tagOf(constant) != Opcodes.tagOf(op)) {
                return REFERENCE;
            }
            if (Opcodes.isFieldUse(op)) {
                return useField(op, constant);
            }
            if (Opcodes.isCall(op)) {
                return callMethod(op, constant);
            }
            if (Opcodes.isShuffle(op)) {
                return shuffle(op);
            }
            int fault = exchange(Opcodes.effectOf(op));
            return fault == 0 && Opcodes.isReturn(op) && !isAnswer(op) ? KIND : fault;
        }

        private int actOnLocal(int op, int behind) {
            int i = Opcodes.localOf(op, behind);
            int kind = Opcodes.localKindOf(op);
            if (i + (kind == J ? 1 : 0) >= mostLocals) {
                return LOCAL;
            }
            if (Opcodes.isStore(op)) {
                int fault = take(kind);
                if (fault == 0) {
                    setLocal(i, kind);
                }
                return fault;
            }
            if (locals[i] != kind) {
                return KIND;
            }
            return op == 132 ? 0 : push(kind);
        }

        /** The caller has looked whether there is such a LOCAL. */
        private void setLocal(int i, int kind) {
            freeOtherHalf(i);
            locals[i] = kind;
            if (kind == J && i + 1 < MOST_SLOTS) {
                freeOtherHalf(i + 1);
                locals[i] = J;
                locals[i + 1] = H;
            }
        }

        private void freeOtherHalf(int i) {
            if (locals[i] == J && i + 1 < MOST_SLOTS) {
                locals[i + 1] = U;
            } else if (locals[i] == H && i > 0) {
                locals[i - 1] = U;
            }
        }

        private int putConstant(int tag) {
            if (tag != INT_TAG && tag != STRING_TAG) {
                return REFERENCE;
            }
            return push(tag == INT_TAG ? I : A);
        }

        private int useField(int op, int field) {
            int type = layout.secondOf(layout.secondOf(field));
            int kind = Grammar.kindOf(layout.image.oneAt(layout.textFrom(type)));
            boolean isSet = op == 179 || op == 181;
            int fault = isSet ? take(kind) : 0;
            if (fault == 0 && op >= 180) {
                fault = take(A);
            }
            return fault == 0 && !isSet ? push(kind) : fault;
        }

        private int callMethod(int op, int method) {
            int pair = layout.secondOf(method);
            if (op != 183 && layout.spells(layout.firstOf(pair), INIT)) {
                return NAME;
            }
            int type = layout.secondOf(pair);
            spreadTypes(layout.textFrom(type), layout.textEnd(type));
            for (int i = manyTypes - 1; i >= 0; i--) {
                int fault = take(Grammar.kindOf(letters[i]));
                if (fault != 0) {
                    return fault;
                }
            }
            int fault = op == 184 ? 0 : take(A);
            return fault == 0 && answer != 'V' ? push(Grammar.kindOf(answer)) : fault;
        }

        private boolean isAnswer(int op) {
            switch (op) {
                case 172:
                    return Grammar.kindOf(ownAnswer) == I;
                case 173:
                    return Grammar.kindOf(ownAnswer) == J;
                case 176:
                    return Grammar.kindOf(ownAnswer) == A;
                default:
                    return ownAnswer == 'V';
            }
        }

        private int exchange(String effect) {
            int colon = effect.indexOf(':');
            int fault = 0;
            for (int i = 0; i < effect.length() && fault == 0; i++) {
                int kind = Grammar.kindOf(effect.charAt(i));
                if (i < colon) {
                    fault = take(kind);
                } else if (i > colon) {
                    fault = push(kind);
                }
            }
            return fault;
        }

        /** U is what F and D have, which never lie on the stack. */
        private int take(int kind) {
            if (kind == U) {
                return KIND;
            }
            if (deep == 0) {
                return STACK;
            }
            if (stack[deep - 1] != (kind == J ? H : kind)) {
                return KIND;
            }
            deep -= kind == J ? 2 : 1;
            return 0;
        }

        private int push(int kind) {
            if (kind == U) {
                return KIND;
            }
            int width = kind == J ? 2 : 1;
            if (deep + width > mostStack) {
                return STACK;
            }
            stack[deep] = kind;
            if (kind == J) {
                stack[deep + 1] = H;
            }
            deep += width;
            return 0;
        }

        private int takeWord() {
            if (deep == 0) {
                return STACK;
            }
            word = stack[deep - 1];
            return take(word == H ? U : word);
        }

        private int shuffle(int op) {
            boolean isTwo = op == 88 || op == 92;
            if (isTwo && deep > 0 && stack[deep - 1] == H) {
                int fault = take(J);
                return fault == 0 && op == 92 ? pushAll(J, J, 2) : fault;
            }
            int fault = takeWord();
            int upper = word;
            if (fault != 0 || op == 87) {
                return fault;
            }
            if (op == 89) {
                return pushAll(upper, upper, 2);
            }
            fault = takeWord();
            if (fault != 0 || op == 88) {
                return fault;
            }
            return op == 92 ? pushAll(word, upper, 4) : pushAll(upper, word, 2);
        }

        private int pushAll(int lower, int upper, int many) {
            int fault = 0;
            for (int i = 0; i < many && fault == 0; i++) {
                fault = push((i & 1) == 0 ? lower : upper);
            }
            return fault;
        }
    }

    /** The FRAMES by the PLACES of their INSTRUCTIONS, sixteen KINDS in each long: first the stack, then the LOCALS. */
    private static final class Frames {
        private static final int WORDS = 8;
        private static final int STACK_WORDS = 4;

        private final long[] rows = new long[MOST_BYTES * WORDS];
        private final byte[] begins = new byte[MOST_BYTES];
        private final byte[] waits = new byte[MOST_BYTES];
        private final byte[] deeps = new byte[MOST_BYTES];
        // None waits before it.
        private int lowest;

        void clear() {
            lowest = MOST_BYTES;
            Arrays.fill(begins, (byte) 0);
            Arrays.fill(waits, (byte) 0);
            Arrays.fill(deeps, (byte) NONE);
        }

        private static boolean isThere(int at) {
            return at >= 0 && at < MOST_BYTES;
        }

        void setBegin(int at) {
            if (isThere(at)) {
                begins[at] = 1;
            }
        }

        boolean isBegin(int at) {
            return isThere(at) && begins[at] == 1;
        }

        int deepAt(int at) {
            return isThere(at) ? deeps[at] : NONE;
        }

        int kindAt(int at, int slot) {
            return isThere(at) ? kindIn(rows, at * WORDS, slot) : NONE;
        }

        static int kindIn(long[] row, int base, int slot) {
            return (int) (row[base + (slot >> 4)] >>> ((slot & 15) << 2)) & 15;
        }

        static void setKindIn(long[] row, int base, int slot, int kind) {
            int shift = (slot & 15) << 2;
            int word = base + (slot >> 4);
            row[word] = row[word] & ~(15L << shift) | (long) kind << shift;
        }

        int howMany() {
            int many = 0;
            for (int at = 0; at < MOST_BYTES; at++) {
                many += deeps[at] == NONE ? 0 : 1;
            }
            return many;
        }

        int deepest() {
            int most = 0;
            for (int at = 0; at < MOST_BYTES; at++) {
                most = Math.max(most, deeps[at]);
            }
            return most;
        }

        int firstWaiting() {
            for (int at = lowest; at < MOST_BYTES; at++) {
                if (waits[at] == 1) {
                    lowest = at;
                    return at;
                }
            }
            lowest = MOST_BYTES;
            return NONE;
        }

        private void makeWait(int at) {
            waits[at] = 1;
            lowest = Math.min(lowest, at);
        }

        /** From here on a change of this FRAME is a new one. */
        void takeUp(int at, Machine machine) {
            if (!isThere(at)) {
                return;
            }
            waits[at] = 0;
            machine.deep = deeps[at];
            for (int i = 0; i < machine.deep; i++) {
                machine.stack[i] = kindIn(rows, at * WORDS, i);
            }
            for (int i = 0; i < machine.mostLocals; i++) {
                machine.locals[i] = kindIn(rows, at * WORDS, MOST_SLOTS + i);
            }
        }

        /** The row of a HANDLER: the LOCALS that are there, and A. */
        void copyCaught(int at, long[] row) {
            if (isThere(at)) {
                Arrays.fill(row, 0L);
                setKindIn(row, 0, 0, A);
                System.arraycopy(rows, at * WORDS + STACK_WORDS, row, STACK_WORDS, WORDS - STACK_WORDS);
            }
        }

        static void lay(Machine machine, long[] row) {
            Arrays.fill(row, 0L);
            for (int i = 0; i < machine.deep; i++) {
                setKindIn(row, 0, i, machine.stack[i]);
            }
            for (int i = 0; i < machine.mostLocals; i++) {
                setKindIn(row, 0, MOST_SLOTS + i, machine.locals[i]);
            }
        }

        /** FRAME if the stacks differ, else 0. */
        int goOn(int to, long[] row, int deep) {
            if (!isThere(to)) {
                return 0;
            }
            int base = to * WORDS;
            if (deeps[to] == NONE) {
                System.arraycopy(row, 0, rows, base, WORDS);
                deeps[to] = (byte) deep;
                makeWait(to);
                return 0;
            }
            for (int i = 0; i < STACK_WORDS; i++) {
                if (rows[base + i] != row[i]) {
                    return FRAME;
                }
            }
            for (int i = STACK_WORDS; i < WORDS; i++) {
                if (rows[base + i] != row[i] && meetWord(base, row, i)) {
                    makeWait(to);
                }
            }
            return 0;
        }

        /**
         * Whether one of these sixteen LOCALS of the FRAME has changed. In every FRAME a J has its H behind it and
         * an H its J before it, so that both halves differ, or none, and no half is left alone.
         */
        private boolean meetWord(int base, long[] row, int word) {
            boolean isChanged = false;
            for (int slot = 16 * word; slot < 16 * word + 16; slot++) {
                int kind = kindIn(rows, base, slot);
                if (kind != U && kind != kindIn(row, 0, slot)) {
                    setKindIn(rows, base, slot, U);
                    isChanged = true;
                }
            }
            return isChanged;
        }
    }

    /** IV. VERIFYING. */
    private static final class Verifier {
        // A FRAME changes at most once for each LOCAL, so 600 INSTRUCTIONS need far fewer.
        private static final int MOST_STEPS = 1000000;

        private final Machine machine = new Machine();
        private final long[] caught = new long[Frames.WORDS];
        private final long[] next = new long[Frames.WORDS];
        private Layout layout;
        private Image image;
        private Frames frames;
        private Finding finding;
        private int from;
        private int end;

        boolean verifies(Layout newLayout, Finding newFinding) {
            layout = newLayout;
            image = newLayout.image;
            frames = newLayout.frames;
            finding = newFinding;
            for (int k = 0; k < layout.methods; k++) {
                if (layout.codeOf(k) != 0 && !isMethodRight(k)) {
                    return false;
                }
            }
            return true;
        }

        private boolean isMethodRight(int method) {
            from = layout.instructionsAt(method);
            end = from + layout.lengthOf(method);
            if (!areInstructionsRight() || !areHandlersRight()) {
                return false;
            }
            int fault = machine.begin(layout, method);
            if (fault != 0) {
                return finding.tell(fault, layout.memberAt(true, method));
            }
            Frames.lay(machine, next);
            frames.goOn(from, next, 0);
            for (int i = 0; i < MOST_STEPS; i++) {
                int at = frames.firstWaiting();
                if (at == NONE) {
                    break;
                }
                fault = goThrough(at);
                if (fault != 0) {
                    return finding.tell(fault, at);
                }
            }
            return true;
        }

        private boolean areInstructionsRight() {
            int at = from;
            while (at < end) {
                int length = Opcodes.lengthOf(image.oneAt(at));
                if (length == 0) {
                    return finding.tell(OPCODE, at);
                }
                if (at + length > end) {
                    return finding.tell(FALL, at);
                }
                frames.setBegin(at);
                at += length;
            }
            return true;
        }

        private boolean isInstruction(int at) {
            return at >= from && at < end && frames.isBegin(at);
        }

        private int handlerAt(int i) {
            return end + 2 + 8 * i;
        }

        /** The PLACE that a number of a HANDLER, the first being 0, tells. */
        private int toldBy(int handler, int number) {
            return from + image.twoAt(handler + 2 * number);
        }

        private boolean areHandlersRight() {
            int many = image.twoAt(end);
            for (int i = 0; i < many; i++) {
                int handler = handlerAt(i);
                int start = toldBy(handler, 0);
                int stop = toldBy(handler, 1);
                int type = image.twoAt(handler + 6);
                boolean isRight = start < stop && isInstruction(start) && (isInstruction(stop) || stop == end)
                        && isInstruction(toldBy(handler, 2)) && (type == 0 || layout.tagOf(type) == CLASS_TAG);
                if (!isRight) {
                    return finding.tell(HANDLER, handler);
                }
            }
            return true;
        }

        private int goThrough(int at) {
            // A HANDLER may change this very FRAME, so what was before is kept apart.
            frames.copyCaught(at, caught);
            frames.takeUp(at, machine);
            int fault = machine.act(at);
            if (fault == 0) {
                fault = goOnToHandlers(at);
            }
            if (fault != 0) {
                return fault;
            }
            Frames.lay(machine, next);
            int op = image.oneAt(at);
            if (Opcodes.goesOn(op)) {
                int behind = at + Opcodes.lengthOf(op);
                fault = behind >= end ? FALL : frames.goOn(behind, next, machine.deep);
            }
            if (fault != 0 || !Opcodes.mayJump(op)) {
                return fault;
            }
            int target = at + (short) image.twoAt(at + 1);
            return isInstruction(target) ? frames.goOn(target, next, machine.deep) : TARGET;
        }

        private int goOnToHandlers(int at) {
            int fault = 0;
            int many = image.twoAt(end);
            for (int i = 0; i < many && fault == 0; i++) {
                int handler = handlerAt(i);
                if (at >= toldBy(handler, 0) && at < toldBy(handler, 1)) {
                    fault = machine.mostStack == 0 ? STACK : frames.goOn(toldBy(handler, 2), caught, 1);
                }
            }
            return fault;
        }
    }
}
