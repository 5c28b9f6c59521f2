import java.util.HashMap;
import java.util.List;
import java.util.Map;
import java.util.TreeMap;
import java.util.TreeSet;

/** IV. VERIFYING of one METHOD, for PlainAudit: a stack is a text of the letters I J H A, LOCALS of U I J H A. */
final class PlainCode {
    /**
     * The document's table: opcodes, what stands behind them (o, n), what is taken, the last first, and put. Where
     * it is a LOCAL or a CONSTANT that tells what is taken or put, a word stands for it.
     */
    private static final String TABLE = """
            0 - >; 1 - >A; 2..8 - >I; 9..10 - >J; 16 o >I; 17 n >I; 18 o constant; 20 n >J
            21 o I.get; 22 o J.get; 25 o A.get; 26..29 - I.get; 30..33 - J.get; 42..45 - A.get
            54 o I.set; 55 o J.set; 58 o A.set; 59..62 - I.set; 63..66 - J.set; 75..78 - A.set
            87 - pop; 88 - pop2; 89 - dup; 92 - dup2; 95 - swap
            96 - II>I; 100 - II>I; 104 - II>I; 108 - II>I; 112 - II>I; 120 - II>I; 122 - II>I; 124 - II>I
            126 - II>I; 128 - II>I; 130 - II>I
            97 - JJ>J; 101 - JJ>J; 105 - JJ>J; 109 - JJ>J; 113 - JJ>J; 127 - JJ>J; 129 - JJ>J; 131 - JJ>J
            121 - IJ>J; 123 - IJ>J; 125 - IJ>J; 116 - I>I; 117 - J>J; 132 oo I.is
            133 - I>J; 136 - J>I; 145..147 - I>I; 148 - JJ>I
            153..158 n I>; 159..164 n II>; 165..166 n AA>; 198..199 n A>; 167 n >
            172 - I>; 173 - J>; 176 - A>; 177 - >
            178 n field; 179 n field; 180 n field; 181 n field; 182 n call; 183 n call; 184 n call
            187 n >A; 191 - A>; 192 n A>A; 193 n A>I; 190 - A>I
            """;
    private static final Map<Integer, Row> ROWS = rows();

    private record Row(int length, String effect, int number) {
    }

    record Frame(String stack, String locals) {
    }

    final TreeMap<Integer, Frame> frames = new TreeMap<>();
    final PlainAudit.Code code;
    private final PlainAudit file;
    private final TreeSet<Integer> begins = new TreeSet<>();
    private final TreeSet<Integer> waiting = new TreeSet<>();
    private char answer;
    private int current;
    private String stack;
    private String locals;

    /** Of a METHOD without CODE nothing is known. */
    PlainCode(PlainAudit file, PlainAudit.Member method) {
        this.file = file;
        this.code = method.codes().isEmpty() ? null : method.codes().get(0);
        if (code != null) {
            findInstructions();
            for (PlainAudit.Handler handler : code.handlers()) {
                lookAt(handler);
            }
            begin(method);
            while (!waiting.isEmpty()) {
                current = waiting.pollFirst();
                goThrough();
            }
        }
    }

    private static Map<Integer, Row> rows() {
        Map<Integer, Row> rows = new HashMap<>();
        for (String line : TABLE.strip().split("\\s*[;\\n]\\s*")) {
            String[] parts = line.split(" ");
            String[] opcodes = parts[0].split("\\.\\.");
            int low = Integer.parseInt(opcodes[0]);
            int high = Integer.parseInt(opcodes[opcodes.length - 1]);
            int length = parts[1].equals("-") ? 1 : parts[1].equals("o") ? 2 : 3;
            for (int op = low; op <= high; op++) {
                rows.put(op, new Row(length, parts[2], op - low));
            }
        }
        return rows;
    }

    private int byteAt(int at) {
        return file.byteAt(code.from() + at);
    }

    private int twoAt(int at) {
        return byteAt(at) * 256 + byteAt(at + 1);
    }

    private void wrongIf(boolean isWrong, int fault) {
        if (isWrong) {
            throw new PlainAudit.Wrong(fault, code.from() + current);
        }
    }

    private void findInstructions() {
        current = 0;
        while (current < code.length()) {
            Row row = ROWS.get(byteAt(current));
            wrongIf(row == null, ShippedClass.OPCODE);
            wrongIf(current + row.length > code.length(), ShippedClass.FALL);
            begins.add(current);
            current += row.length;
        }
    }

    private void lookAt(PlainAudit.Handler handler) {
        boolean isRange = handler.start() < handler.end() && begins.contains(handler.start())
                && (begins.contains(handler.end()) || handler.end() == code.length());
        boolean isType = handler.type() == 0 || file.constant(handler.type(), 7) != null;
        if (!isRange || !begins.contains(handler.to()) || !isType) {
            throw new PlainAudit.Wrong(ShippedClass.HANDLER, handler.place());
        }
    }

    private void begin(PlainAudit.Member method) {
        String letters = PlainAudit.lettersOf(file.typeOf(method));
        answer = letters.charAt(letters.length() - 1);
        StringBuilder kinds = new StringBuilder((method.flags() & 8) != 0 ? "" : "A");
        for (char letter : letters.substring(0, letters.length() - 1).toCharArray()) {
            kinds.append(letter == 'J' ? "JH" : letter == 'D' ? "UU" : "" + PlainAudit.kindOf(letter));
        }
        if (kinds.length() > code.locals()) {
            throw new PlainAudit.Wrong(ShippedClass.LOCAL, method.place());
        }
        goOn(0, new Frame("", kinds + "U".repeat(code.locals() - kinds.length())));
    }

    private void goThrough() {
        Frame before = frames.get(current);
        stack = before.stack;
        locals = before.locals;
        int op = byteAt(current);
        act(op, ROWS.get(op));
        for (PlainAudit.Handler handler : code.handlers()) {
            if (handler.start() <= current && current < handler.end()) {
                wrongIf(code.stack() == 0, ShippedClass.STACK);
                goOn(handler.to(), new Frame("A", before.locals));
            }
        }
        Frame after = new Frame(stack, locals);
        if (!List.of(167, 172, 173, 176, 177, 191).contains(op)) {
            int next = current + ROWS.get(op).length;
            wrongIf(next == code.length(), ShippedClass.FALL);
            goOn(next, after);
        }
        if (op >= 153 && op <= 167 || op == 198 || op == 199) {
            int n = twoAt(current + 1);
            int target = current + (n < 32768 ? n : n - 65536);
            wrongIf(!begins.contains(target), ShippedClass.TARGET);
            goOn(target, after);
        }
    }

    private void goOn(int to, Frame frame) {
        Frame old = frames.get(to);
        Frame now = frame;
        if (old != null) {
            wrongIf(!old.stack.equals(frame.stack), ShippedClass.FRAME);
            now = new Frame(old.stack, meet(old.locals, frame.locals));
        }
        if (!now.equals(old)) {
            frames.put(to, now);
            waiting.add(to);
        }
    }

    private static String meet(String one, String other) {
        StringBuilder met = new StringBuilder(one);
        for (int i = 0; i < one.length(); i++) {
            if (one.charAt(i) != other.charAt(i)) {
                met.setCharAt(i, 'U');
            }
        }
        String alone = met.toString();
        for (int i = 0; i < alone.length(); i++) {
            boolean isHalf = alone.charAt(i) == 'J' && !alone.startsWith("H", i + 1)
                    || alone.charAt(i) == 'H' && !alone.startsWith("J", i - 1);
            if (isHalf) {
                met.setCharAt(i, 'U');
            }
        }
        return met.toString();
    }

    private void act(int op, Row row) {
        switch (row.effect) {
            case "I.get", "J.get", "A.get", "I.is", "I.set", "J.set", "A.set":
                actOnLocal(row.length == 1 ? row.number : byteAt(current + 1), row.effect.charAt(0), row.effect);
                break;
            case "constant":
                int number = byteAt(current + 1);
                boolean isInt = file.constant(number, 3) != null;
                wrongIf(!isInt && file.constant(number, 8) == null, ShippedClass.REFERENCE);
                put(isInt ? 'I' : 'A');
                break;
            case "field":
                useField(op);
                break;
            case "call":
                call(op);
                break;
            case "pop", "pop2", "dup", "dup2", "swap":
                shuffle(row.effect);
                break;
            default:
                exchange(op, row.effect);
                break;
        }
    }

    private void actOnLocal(int i, char kind, String what) {
        wrongIf(i + (kind == 'J' ? 2 : 1) > locals.length(), ShippedClass.LOCAL);
        if (what.endsWith(".set")) {
            take(kind);
            set(i, kind == 'J' ? "JH" : "" + kind);
            return;
        }
        wrongIf(locals.charAt(i) != kind, ShippedClass.KIND);
        if (what.endsWith(".get")) {
            put(kind);
        }
    }

    private void set(int i, String kinds) {
        StringBuilder row = new StringBuilder(locals);
        int behind = i + kinds.length();
        if (row.charAt(i) == 'H') {
            row.setCharAt(i - 1, 'U');
        }
        if (row.charAt(behind - 1) == 'J') {
            row.setCharAt(behind, 'U');
        }
        locals = row.replace(i, behind, kinds).toString();
    }

    /** F and D have U. */
    private void take(char kind) {
        wrongIf(kind == 'U', ShippedClass.KIND);
        wrongIf(stack.isEmpty(), ShippedClass.STACK);
        String last = kind == 'J' ? "JH" : "" + kind;
        wrongIf(!stack.endsWith(last), ShippedClass.KIND);
        stack = stack.substring(0, stack.length() - last.length());
    }

    private void put(char kind) {
        wrongIf(kind == 'U', ShippedClass.KIND);
        putAll(kind == 'J' ? "JH" : "" + kind);
    }

    private void putAll(String kinds) {
        stack += kinds;
        wrongIf(stack.length() > code.stack(), ShippedClass.STACK);
    }

    private void useField(int op) {
        PlainAudit.Constant field = file.constant(twoAt(current + 1), 9);
        wrongIf(field == null, ShippedClass.REFERENCE);
        char kind = PlainAudit.kindOf(file.usedType(field).charAt(0));
        if (op == 179 || op == 181) {
            take(kind);
        }
        if (op == 180 || op == 181) {
            take('A');
        }
        if (op == 178 || op == 180) {
            put(kind);
        }
    }

    private void call(int op) {
        PlainAudit.Constant method = file.constant(twoAt(current + 1), 10);
        wrongIf(method == null, ShippedClass.REFERENCE);
        wrongIf(op != 183 && file.usedName(method).equals("<init>"), ShippedClass.NAME);
        String letters = PlainAudit.lettersOf(file.usedType(method));
        int last = letters.length() - 1;
        for (int i = last - 1; i >= 0; i--) {
            take(PlainAudit.kindOf(letters.charAt(i)));
        }
        if (op != 184) {
            take('A');
        }
        if (letters.charAt(last) != 'V') {
            put(PlainAudit.kindOf(letters.charAt(last)));
        }
    }

    /** One of I, A. */
    private String takeOne() {
        wrongIf(stack.isEmpty(), ShippedClass.STACK);
        char last = stack.charAt(stack.length() - 1);
        wrongIf(last == 'H', ShippedClass.KIND);
        take(last);
        return "" + last;
    }

    private void shuffle(String what) {
        boolean isLong = what.endsWith("2") && stack.endsWith("JH");
        String words = isLong ? "JH" : takeOne();
        if (isLong) {
            take('J');
        } else if (what.equals("swap")) {
            words = words + takeOne();
        } else if (what.endsWith("2")) {
            words = takeOne() + words;
        }
        putAll(what.equals("swap") ? words : what.startsWith("dup") ? words + words : "");
    }

    private void exchange(int op, String effect) {
        boolean tellsClass = op == 187 || op == 192 || op == 193;
        wrongIf(op == 20 && file.constant(twoAt(current + 1), 5) == null, ShippedClass.REFERENCE);
        wrongIf(tellsClass && file.constant(twoAt(current + 1), 7) == null, ShippedClass.REFERENCE);
        int middle = effect.indexOf('>');
        for (char kind : effect.substring(0, middle).toCharArray()) {
            take(kind);
        }
        for (char kind : effect.substring(middle + 1).toCharArray()) {
            put(kind);
        }
        boolean isReturn = op >= 172 && op <= 177;
        boolean isNothing = op == 177;
        char mine = answer == 'V' ? 'V' : PlainAudit.kindOf(answer);
        wrongIf(isReturn && mine != (isNothing ? 'V' : effect.charAt(0)), ShippedClass.KIND);
    }
}
