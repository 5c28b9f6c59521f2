import java.util.ArrayList;
import java.util.Arrays;
import java.util.List;

/** The face of ShippedClass over PlainAudit: what each call must answer or throw. */
final class PlainClass {
    private final List<String> guarded = new ArrayList<>();
    private final List<String> allowed = new ArrayList<>();
    private final int[] limits = {16, 200};
    private byte[] bytes = {};
    private PlainAudit last;
    private PlainAudit good;

    int size() {
        return bytes.length;
    }

    /** 0 where there is none. */
    int byteAt(int place) {
        return place >= 0 && place < bytes.length ? bytes[place] & 255 : 0;
    }

    int feed(int many, int... fours) {
        if (many < 0 || many > 16) {
            throw new IllegalArgumentException();
        }
        if (bytes.length + many > 600) {
            throw new IllegalStateException();
        }
        int from = bytes.length;
        bytes = Arrays.copyOf(bytes, from + many);
        for (int i = 0; i < many; i++) {
            bytes[from + i] = (byte) (fours[i / 4] >> 8 * (3 - i % 4));
        }
        return bytes.length;
    }

    int put(int place, int value) {
        if (place < 0 || place >= bytes.length) {
            throw new IndexOutOfBoundsException();
        }
        if (value < 0 || value > 255) {
            throw new IllegalArgumentException();
        }
        int was = bytes[place] & 255;
        bytes[place] = (byte) value;
        return was;
    }

    int cut(int n) {
        if (n < 0 || n > bytes.length) {
            throw new IllegalArgumentException();
        }
        int gone = bytes.length - n;
        bytes = Arrays.copyOf(bytes, n);
        return gone;
    }

    int rule(boolean isAllowed, int n) {
        if (n < 1 || n > 40 || n > bytes.length) {
            throw new IllegalArgumentException();
        }
        StringBuilder text = new StringBuilder();
        for (int i = bytes.length - n; i < bytes.length; i++) {
            if (bytes[i] < 33 || bytes[i] > 126) {
                throw new IllegalArgumentException();
            }
            text.append((char) bytes[i]);
        }
        List<String> texts = isAllowed ? allowed : guarded;
        if (texts.size() == 6) {
            throw new IllegalStateException();
        }
        texts.add(text.toString());
        cut(bytes.length - n);
        return texts.size();
    }

    int limit(int what, int n) {
        if (what != 0 && what != 1 || n < 0 || n > 600) {
            throw new IllegalArgumentException();
        }
        int was = limits[what];
        limits[what] = n;
        return was;
    }

    int audit() {
        last = new PlainAudit(bytes.clone(), new PlainAudit.Rules(guarded, allowed, limits[0], limits[1]));
        good = last.fault == 0 ? last : good;
        return last.fault;
    }

    int place() {
        return last == null ? ShippedClass.NONE : last.place;
    }

    private void mustBeGood() {
        if (good == null) {
            throw new IllegalStateException();
        }
    }

    int count(int what) {
        mustBeGood();
        switch (what) {
            case 0:
                return good.n == 0 ? 0 : good.n - 1;
            case 1:
                return good.interfaces.size();
            case 2:
                return good.fields.size();
            case 3:
                return good.methods.size();
            case 4:
                return good.codes.stream().mapToInt(c -> c.code == null ? 0 : c.code.length()).sum();
            case 5:
                return good.codes.stream().mapToInt(c -> c.frames.size()).sum();
            case 6:
                return good.codes.stream().flatMap(c -> c.frames.values().stream())
                        .mapToInt(f -> f.stack().length()).max().orElse(0);
            default:
                throw new IllegalArgumentException();
        }
    }

    char text(int what, int k, int i) {
        mustBeGood();
        if (what < 0 || what > 6) {
            throw new IllegalArgumentException();
        }
        String text = textOf(what, k);
        return i >= 0 && i < text.length() ? text.charAt(i) : ' ';
    }

    private String textOf(int what, int k) {
        if (what < 2) {
            return good.classText(what == 0 ? good.self : good.parent);
        }
        List<?> all = what == 2 ? good.interfaces : what < 5 ? good.fields : good.methods;
        if (k < 0 || k >= all.size()) {
            return "";
        }
        if (what == 2) {
            return good.classText(good.interfaces.get(k));
        }
        PlainAudit.Member member = (what < 5 ? good.fields : good.methods).get(k);
        return what % 2 == 1 ? good.nameOf(member) : good.typeOf(member);
    }

    private PlainCode.Frame frame(int method, int at) {
        mustBeGood();
        return method >= 0 && method < good.codes.size() ? good.codes.get(method).frames.get(at) : null;
    }

    /** The byte at which an INSTRUCTION with a FRAME is, the n-th one, counted round; 0 if there is none. */
    int frameAt(int method, int n) {
        boolean isThere = good != null && method < good.codes.size() && !good.codes.get(method).frames.isEmpty();
        if (!isThere) {
            return 0;
        }
        List<Integer> all = new ArrayList<>(good.codes.get(method).frames.keySet());
        return all.get(n % all.size());
    }

    int depth(int method, int at) {
        PlainCode.Frame frame = frame(method, at);
        return frame == null ? ShippedClass.NONE : frame.stack().length();
    }

    int kind(int method, int at, boolean local, int i) {
        PlainCode.Frame frame = frame(method, at);
        if (frame == null) {
            return ShippedClass.NONE;
        }
        String row = local ? frame.locals() : frame.stack();
        return i >= 0 && i < row.length() ? "UIJHA".indexOf(row.charAt(i)) : ShippedClass.NONE;
    }
}
