import java.util.function.IntSupplier;

/** Counts what is not as due, and ends a test by its exit code. */
final class Checks {
    private int asked;
    private int wrong;

    void due(String what, long got, long want) {
        asked++;
        if (got != want) {
            wrong++;
            System.out.println(what + " answered " + got + ", due is " + want);
        }
    }

    void dueThrow(String what, IntSupplier call, Class<? extends RuntimeException> want) {
        asked++;
        String got;
        try {
            got = "answered " + call.getAsInt();
        } catch (RuntimeException e) {
            if (e.getClass() == want) {
                return;
            }
            got = "threw " + e;
        }
        wrong++;
        System.out.println(what + " " + got + ", due is " + want.getSimpleName());
    }

    /** The audit of these bytes on a new object finds this at that place. */
    void dueFault(String what, byte[] bytes, int fault, int place) {
        dueFault(what, fed(bytes), fault, place);
    }

    void dueFault(String what, ShippedClass x, int fault, int place) {
        due(what + ": audit", x.audit(), fault);
        due(what + ": place", x.place(), place);
    }

    void dueNone(String what, byte[] bytes) {
        dueFault(what, bytes, 0, ShippedClass.NONE);
    }

    static ShippedClass fed(byte[] bytes) {
        ShippedClass x = new ShippedClass();
        feed(x, bytes);
        return x;
    }

    static int feed(ShippedClass x, byte[] bytes) {
        int size = 0;
        for (int from = 0; from < bytes.length; from += 16) {
            int[] four = new int[4];
            int many = Math.min(16, bytes.length - from);
            for (int i = 0; i < many; i++) {
                four[i / 4] |= (bytes[from + i] & 255) << (24 - 8 * (i % 4));
            }
            size = x.feed(many, four[0], four[1], four[2], four[3]);
        }
        return size;
    }

    void end() {
        System.out.println(asked + " asked, " + wrong + " wrong");
        if (wrong != 0 || asked == 0) {
            System.exit(1);
        }
    }
}
