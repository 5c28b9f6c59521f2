import java.util.Arrays;
import java.util.function.IntSupplier;

/** Runs of 512 calls on one object, thrown with the same dice each time; PlainClass tells what is due. */
public final class RunsTest {
    private static final Checks CHECKS = new Checks();
    private static final int CALLS = 512;
    /** How often each fault, or none, was due. */
    private static final int[] FAULTS = new int[ShippedClass.FRAME + 1];
    private static final String[] BEGINS = {"ext/", "java/lang/O", "E", "ext/Lib", "java/", "x"};
    private static final String[] GUARDED = {"own/Er2", "java/", "Own!", "own/E", "Ow", "~", "!"};

    private final Dice dice;
    private final FileDice files;
    private final ShippedClass x = new ShippedClass();
    private final PlainClass plain = new PlainClass();
    private final int run;
    private int calls;
    private boolean isSame = true;

    private RunsTest(int run) {
        this.run = run;
        dice = new Dice(run);
        files = new FileDice(dice);
    }

    public static void main(String[] args) {
        int runs = args.length == 0 ? 1000 : Integer.parseInt(args[0]);
        for (int run = 0; run < runs; run++) {
            new RunsTest(run).goOn();
        }
        for (int fault = 0; fault < FAULTS.length; fault++) {
            CHECKS.due("fault " + fault + " came up", FAULTS[fault] > 0 ? 1 : 0, 1);
        }
        System.out.println("faults 0 to 25: " + Arrays.toString(FAULTS));
        CHECKS.end();
    }

    private void goOn() {
        if (dice.isOneOf(2)) {
            limit(1, 600);
        }
        while (isSame && calls < CALLS) {
            nextFile();
            for (int i = dice.upTo(12); i >= 0; i--) {
                changeAndAudit();
            }
        }
    }

    /** Once an answer differs, what follows tells nothing more. */
    private void same(String call, IntSupplier got, IntSupplier due) {
        if (isSame && calls < CALLS) {
            calls++;
            isSame = CHECKS.dueSame("run " + run + ", call " + calls + ": " + call, got, due);
        }
    }

    private void feed(int many, int[] fours) {
        String call = "feed(" + many + ", " + Arrays.toString(fours) + ")";
        same(call, () -> x.feed(many, fours[0], fours[1], fours[2], fours[3]), () -> plain.feed(many, fours));
    }

    private void feedAll(byte[] bytes) {
        for (int from = 0; from < bytes.length; from += 16) {
            int[] fours = new int[4];
            int many = Math.min(16, bytes.length - from);
            for (int i = 0; i < 16; i++) {
                // What is behind the last one must not count.
                int one = i < many ? bytes[from + i] & 255 : 0xA5;
                fours[i / 4] |= one << (24 - 8 * (i % 4));
            }
            feed(many, fours);
        }
    }

    private void put(int place, int value) {
        same("put(" + place + ", " + value + ")", () -> x.put(place, value), () -> plain.put(place, value));
    }

    private void cut(int n) {
        same("cut(" + n + ")", () -> x.cut(n), () -> plain.cut(n));
    }

    private void rule(boolean isAllowed, int n) {
        same("rule(" + isAllowed + ", " + n + ")", () -> x.rule(isAllowed, n), () -> plain.rule(isAllowed, n));
    }

    private void limit(int what, int n) {
        same("limit(" + what + ", " + n + ")", () -> x.limit(what, n), () -> plain.limit(what, n));
    }

    private void audit() {
        same("audit()", x::audit, this::plainAudit);
        same("place()", x::place, plain::place);
    }

    private int plainAudit() {
        int fault = plain.audit();
        FAULTS[fault]++;
        return fault;
    }

    private void count(int what) {
        same("count(" + what + ")", () -> x.count(what), () -> plain.count(what));
    }

    private void text(int what, int k, int i) {
        same("text(" + what + ", " + k + ", " + i + ")", () -> x.text(what, k, i), () -> plain.text(what, k, i));
    }

    private void depth(int method, int at) {
        same("depth(" + method + ", " + at + ")", () -> x.depth(method, at), () -> plain.depth(method, at));
    }

    private void kind(int method, int at, boolean local, int i) {
        String call = "kind(" + method + ", " + at + ", " + local + ", " + i + ")";
        same(call, () -> x.kind(method, at, local, i), () -> plain.kind(method, at, local, i));
    }

    private void nextFile() {
        cut(0);
        for (int i = dice.upTo(3); i > 0; i--) {
            makeRule();
        }
        cut(0);
        feedAll(files.next());
        audit();
        ask();
    }

    private void makeRule() {
        boolean isAllowed = !dice.isOneOf(3);
        String text = dice.oneOf(isAllowed ? BEGINS : GUARDED);
        feedAll(ClassMaker.letters(dice.seldom(20, text + " ", text)));
        rule(isAllowed, dice.isOneOf(20) ? dice.upTo(45) : text.length());
        cut(0);
    }

    private void changeAndAudit() {
        switch (dice.upTo(10)) {
            case 0:
                cut(dice.isOneOf(8) ? dice.anyNumber() : Math.max(0, plain.size() - dice.upTo(20)));
                break;
            case 1:
                feed(dice.isOneOf(8) ? dice.anyNumber() : dice.upTo(3), new int[] {dice.anyNumber(), 0, 0, 0});
                break;
            case 2:
                limit(dice.upTo(2), dice.isOneOf(4) ? dice.upTo(40) : 200 + dice.upTo(401));
                break;
            case 3:
                wrongCall();
                break;
            case 4:
                ask();
                return;
            default:
                damage();
                return;
        }
        audit();
    }

    /** One byte becomes another, and mostly what it was again. */
    private void damage() {
        // The instructions are in the second half.
        int from = dice.isOneOf(2) ? plain.size() / 2 : 0;
        int place = dice.isOneOf(30) ? dice.anyNumber() : from + dice.upTo(plain.size() - from + 1);
        int value = dice.isOneOf(30) ? dice.anyNumber() : dice.oneOf(0, 1, 2, 7, 8, dice.upTo(32), dice.upTo(256));
        int before = plain.byteAt(place);
        put(place, value);
        audit();
        if (dice.isOneOf(3)) {
            ask();
        }
        if (!dice.isOneOf(6)) {
            put(place, before);
        }
    }

    private void wrongCall() {
        int any = dice.anyNumber();
        int other = dice.anyNumber();
        switch (dice.upTo(6)) {
            case 0:
                limit(any, other);
                break;
            case 1:
                rule(dice.isOneOf(2), any);
                break;
            case 2:
                count(any);
                break;
            case 3:
                text(any, dice.upTo(3), dice.upTo(3));
                break;
            case 4:
                depth(any, other);
                break;
            default:
                kind(dice.upTo(3), dice.upTo(9), dice.isOneOf(2), any);
                break;
        }
    }

    private void ask() {
        for (int i = dice.upTo(3); i >= 0; i--) {
            count(dice.upTo(8));
            text(dice.upTo(8), dice.upTo(4), dice.upTo(6));
        }
        int method = dice.upTo(4);
        for (int i = dice.upTo(12); i >= 0; i--) {
            int at = dice.isOneOf(8) ? dice.upTo(60) : plain.frameAt(method, dice.upTo(60));
            depth(method, at);
            kind(method, at, true, dice.upTo(8));
            kind(method, at, true, dice.upTo(4));
            kind(method, at, false, dice.upTo(5));
        }
    }
}
