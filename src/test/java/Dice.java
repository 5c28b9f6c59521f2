/** Numbers that look thrown, but are the same ones at every run of a test. */
final class Dice {
    private long state;

    Dice(long seed) {
        state = seed * 0x9E3779B97F4A7C15L + 1;
    }

    /** 0 .. sides - 1. */
    int upTo(int sides) {
        state = state * 6364136223846793005L + 1442695040888963407L;
        return (int) ((state >>> 33) % sides);
    }

    boolean isOneOf(int sides) {
        return upTo(sides) == 0;
    }

    int oneOf(int... values) {
        return values[upTo(values.length)];
    }

    String oneOf(String... texts) {
        return texts[upTo(texts.length)];
    }

    /** The first of two now and then. */
    String seldom(int sides, String seldom, String mostly) {
        return isOneOf(sides) ? seldom : mostly;
    }

    /** Any of them all, and more often one at an edge. */
    int anyNumber() {
        int shift = upTo(32);
        return oneOf(0, 1, -1, Integer.MIN_VALUE, Integer.MAX_VALUE, upTo(1 << 30) * 4 + upTo(4)) >> shift;
    }
}
