import java.util.ArrayList;
import java.util.List;

/**
 * Writes instructions that are mostly right: each is thrown until what it takes lies on the stack, which is kept as a
 * text of the letters I, J and A, a J being one letter here.
 */
final class CodeDice {
    /** Bytes, what they take (the last one last) and what they put. */
    private record Choice(int[] bytes, String takes, String puts) {
    }

    private final Dice dice;
    private final List<Choice> choices = new ArrayList<>();
    private final List<Integer> row = new ArrayList<>();
    private final List<Integer> begins = new ArrayList<>();
    private final List<String> stacks = new ArrayList<>();
    private final List<Integer> jumps = new ArrayList<>();
    private final StringBuilder locals = new StringBuilder();
    private String stack = "";

    CodeDice(Dice dice) {
        this.dice = dice;
        add("", "", 0);
        add("", "A", 1);
        add("", "I", 4);
        add("", "J", 9);
        add("", "I", 16, 7);
        add("", "I", 17, 1, 2);
        add("I", "", 87);
        add("A", "", 87);
        add("J", "", 88);
        add("IA", "", 88);
        add("I", "II", 89);
        add("A", "AA", 89);
        add("J", "JJ", 92);
        add("AI", "AIAI", 92);
        add("AI", "IA", 95);
        add("II", "I", 96);
        add("JJ", "J", 97);
        add("JI", "J", 121);
        add("I", "I", 116);
        add("J", "J", 117);
        add("I", "J", 133);
        add("J", "I", 136);
        add("I", "I", 145);
        add("JJ", "I", 148);
        add("A", "I", 190);
    }

    void add(String takes, String puts, int... bytes) {
        choices.add(new Choice(bytes, takes, puts));
    }

    /** The KINDS that the METHOD begins with, a J with its H. */
    void begin(String kinds, int manyLocals) {
        row.clear();
        begins.clear();
        stacks.clear();
        jumps.clear();
        stack = "";
        locals.setLength(0);
        locals.append(kinds);
        while (locals.length() < manyLocals) {
            locals.append('U');
        }
    }

    int[] write(int steps, char answer) {
        for (int i = 0; i < steps; i++) {
            throwOne();
            if (dice.isOneOf(25)) {
                leave(answer);
                stack = dice.oneOf("A", stack);
            }
        }
        leave(answer);
        for (int jump : jumps) {
            aim(jump);
        }
        return row.stream().mapToInt(Integer::intValue).toArray();
    }

    private void append(int... bytes) {
        begins.add(row.size());
        stacks.add(stack);
        for (int one : bytes) {
            row.add(one);
        }
    }

    private void throwOne() {
        switch (dice.upTo(8)) {
            case 0:
            case 1:
                load();
                break;
            case 2:
                store();
                break;
            case 3:
                jump();
                break;
            default:
                choose();
                break;
        }
    }

    private boolean takes(String kinds) {
        if (!stack.endsWith(kinds) && !dice.isOneOf(400)) {
            return false;
        }
        stack = stack.substring(0, Math.max(0, stack.length() - kinds.length()));
        return true;
    }

    private void choose() {
        Choice choice = choices.get(dice.upTo(choices.size()));
        String before = stack;
        if (stack.length() < 5 && takes(choice.takes)) {
            String after = stack + choice.puts;
            stack = before;
            append(choice.bytes);
            stack = after;
        }
    }

    private void load() {
        int i = dice.upTo(locals.length() + 1);
        char kind = i < locals.length() ? locals.charAt(i) : 'U';
        int which = "IJ..A".indexOf(kind);
        if (which < 0 && !dice.isOneOf(100) || stack.length() > 5) {
            return;
        }
        if (kind == 'I' && dice.isOneOf(4)) {
            append(132, i, 1);
            return;
        }
        which = Math.max(which, 0);
        if (i < 4 && dice.isOneOf(2)) {
            append(26 + 4 * which + i);
        } else {
            append(21 + which, i);
        }
        stack += "IJ..A".charAt(which);
    }

    private void store() {
        if (stack.isEmpty() && !dice.isOneOf(100)) {
            return;
        }
        char kind = stack.isEmpty() ? 'I' : stack.charAt(stack.length() - 1);
        int which = "IJ..A".indexOf(kind);
        int i = dice.upTo(Math.max(1, locals.length() - (kind == 'J' && !dice.isOneOf(50) ? 1 : 0)));
        if (i < 4 && dice.isOneOf(2)) {
            append(59 + 4 * which + i);
        } else {
            append(54 + which, i);
        }
        stack = stack.isEmpty() ? "" : stack.substring(0, stack.length() - 1);
        setLocal(i, kind);
    }

    private void setLocal(int i, char kind) {
        if (i > 0 && locals.charAt(i - 1) == 'J') {
            locals.setCharAt(i - 1, 'U');
        }
        if (i < locals.length()) {
            locals.setCharAt(i, kind);
        }
        if (kind == 'J' && i + 1 < locals.length()) {
            locals.setCharAt(i + 1, 'H');
        }
    }

    private void jump() {
        String before = stack;
        String taken = dice.oneOf("I", "II", "AA", "A", "");
        if (taken.isEmpty() && !dice.isOneOf(4) || !takes(taken)) {
            return;
        }
        String after = stack;
        stack = before;
        jumps.add(row.size());
        int first = taken.equals("I") ? 153 : taken.equals("II") ? 159 : taken.equals("AA") ? 165 : 198;
        append(taken.isEmpty() ? 167 : first + dice.upTo(taken.equals("I") ? 6 : 2), 0, 0);
        stack = after;
    }

    /** To where the stack is the same, if there is such an instruction. */
    private void aim(int jump) {
        String after = stacks.get(Math.min(begins.indexOf(jump) + 1, stacks.size() - 1));
        int target = jump + 3;
        for (int i = 0; i < 12; i++) {
            int other = dice.upTo(begins.size());
            if (stacks.get(other).equals(after) || dice.isOneOf(1000)) {
                target = begins.get(other);
            }
        }
        target += dice.isOneOf(60) ? 1 : 0;
        row.set(jump + 1, (target - jump) >> 8 & 255);
        row.set(jump + 2, (target - jump) & 255);
    }

    /** Puts what the METHOD answers, and ends. */
    private void leave(char answer) {
        int which = "IJ..A".indexOf(answer);
        if (which >= 0) {
            append(which == 0 ? 3 : which == 1 ? 9 : 1);
            stack += answer;
        }
        if (!dice.isOneOf(150)) {
            append(dice.isOneOf(80) ? 191 : which < 0 ? 177 : 172 + which);
        }
        stack = which < 0 ? stack : stack.substring(0, stack.length() - 1);
    }

    /** Whether an instruction begins with A alone, as one behind a HANDLER must. */
    boolean hasCatch() {
        return stacks.contains("A");
    }

    /** Start, end and to; mostly of instructions, and to one that begins with A alone. */
    int[] handler() {
        int start = dice.upTo(begins.size());
        int end = start + 1 + dice.upTo(begins.size() - start);
        int to = dice.upTo(begins.size());
        for (int i = 0; i < begins.size() && !stacks.get(to).equals("A"); i++) {
            to = i;
        }
        int behind = end < begins.size() ? begins.get(end) : row.size();
        return new int[] {begins.get(start), behind + (dice.isOneOf(40) ? 1 : 0), begins.get(to)};
    }
}
