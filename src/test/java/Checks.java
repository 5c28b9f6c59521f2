import java.util.function.IntSupplier;

/** Counts what is not as due, and ends a test by its exit code. */
final class Checks {
    private int asked;
    private int wrong;
    private int askedBefore;
    private String sentence = "";

    /** What the document says, word for word, and what the checks that follow are about. */
    void sentence(String words) {
        endSentence();
        sentence = "\"" + words + "\": ";
        askedBefore = asked;
    }

    private void endSentence() {
        if (!sentence.isEmpty() && asked == askedBefore) {
            tell("nothing is asked");
        }
    }

    private void tell(String what) {
        wrong++;
        System.out.println(sentence + what);
    }

    void due(String what, long got, long want) {
        asked++;
        if (got != want) {
            tell(what + " answered " + got + ", due is " + want);
        }
    }

    void dueThrow(String what, IntSupplier call, Class<? extends RuntimeException> want) {
        asked++;
        String got;
        try {
            got = "answered " + call.getAsInt();
        } catch (RuntimeException e) {
            if (e.getClass() == want) {
                return;
            }
            got = "threw " + e;
        }
        tell(what + " " + got + ", due is " + want.getSimpleName());
    }

    private static String outcome(IntSupplier call) {
        try {
            return "answered " + call.getAsInt();
        } catch (RuntimeException e) {
            return "threw " + e;
        }
    }

    /** Both answer the same, or throw the same; whether it was so. */
    boolean dueSame(String what, IntSupplier call, IntSupplier want) {
        asked++;
        String got = outcome(call);
        String due = outcome(want);
        if (!got.equals(due)) {
            tell(what + " " + got + ", but the plain one " + due);
        }
        return got.equals(due);
    }

    /** The audit of these bytes on a new object finds this at that place. */
    void dueFault(String what, byte[] bytes, int fault, int place) {
        dueFault(what, fed(bytes), fault, place);
    }

    void dueFault(String what, ShippedClass x, int fault, int place) {
        due(what + ": audit", x.audit(), fault);
        due(what + ": place", x.place(), place);
    }

    /** The same where there may be no fault, and the place counts only if there is one. */
    void dueFaultIf(boolean isWrong, String what, byte[] bytes, int fault, int place) {
        dueFault(what, bytes, isWrong ? fault : 0, isWrong ? place : ShippedClass.NONE);
    }

    void dueFaultIf(boolean isWrong, String what, ShippedClass x, int fault, int place) {
        dueFault(what, x, isWrong ? fault : 0, isWrong ? place : ShippedClass.NONE);
    }

    void dueNone(String what, byte[] bytes) {
        dueFault(what, bytes, 0, ShippedClass.NONE);
    }

    static ShippedClass fed(byte[] bytes) {
        ShippedClass x = new ShippedClass();
        feed(x, bytes);
        return x;
    }

    static int feed(ShippedClass x, byte[] bytes) {
        int size = 0;
        for (int from = 0; from < bytes.length; from += 16) {
            int[] four = new int[4];
            int many = Math.min(16, bytes.length - from);
            for (int i = 0; i < many; i++) {
                four[i / 4] |= (bytes[from + i] & 255) << (24 - 8 * (i % 4));
            }
            size = x.feed(many, four[0], four[1], four[2], four[3]);
        }
        return size;
    }

    void end() {
        endSentence();
        System.out.println(asked + " asked, " + wrong + " wrong");
        if (wrong != 0 || asked == 0) {
            System.exit(1);
        }
    }
}
