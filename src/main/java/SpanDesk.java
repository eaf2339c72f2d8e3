import java.util.Arrays;

/** An assembler that gives every jump the shortest form with which all short jumps reach. */
public final class SpanDesk {
    public static final int NONE = -1;

    private static final int MOST_LINES = 50;
    private static final int LABELS = 16;
    private static final int MOST_OPERATIONS = 40;

    private static final int LABEL = 0;
    private static final int DATA = 1;
    private static final int WORD = 2;
    private static final int JUMP = 3;

    private static final int NO_JUMP = 0;
    private static final int SHORT = 1;
    private static final int LONG = 2;

    private static final int SHORT_SIZE = 2;
    private static final int FAR_SIZE = 3;
    private static final int WORD_SIZE = 2;

    private static final int SHORT_CODE = 32;
    private static final int LAST_SHORT_CODE = 47;
    private static final int SPARE_CODE = 40;
    private static final int FAR_CODE = 64;

    private final Program program;
    private final Assembly assembly;

    public SpanDesk() {
        program = new Program();
        assembly = new Assembly();
    }

    public boolean insert(int at, int kind, int a, int b) {
        return isLine(kind, a, b) && program.open(at, kind, a, b);
    }

    public boolean remove(int at) {
        return program.close(at);
    }

    public int lines() {
        return program.count;
    }

    public int assemble() throws IllegalArgumentException, IllegalStateException {
        // Both looks come before any change, so that a throw leaves the latest assembly as it was.
        if (program.definesTwice()) {
            throw new IllegalArgumentException("a label is defined twice");
        }
        if (program.namesUndefined()) {
            throw new IllegalStateException("a label that is named is not defined");
        }
        assembly.make(program);
        return assembly.size();
    }

    public int at(int k) {
        return assembly.byteAt(k);
    }

    public int address(int k) {
        return assembly.source.has(k) ? assembly.starts[k] : NONE;
    }

    public int form(int k) {
        return assembly.source.has(k) ? assembly.forms[k] : NONE;
    }

    public int longs() {
        return assembly.countLong();
    }

    public int value(int label) {
        return isLabel(label) ? assembly.values[label] : NONE;
    }

    public int follow(int address, boolean taken) throws IndexOutOfBoundsException {
        int size = assembly.operationSize(address);
        if (size == 0) {
            throw new IndexOutOfBoundsException("no whole operation is there");
        }
        return taken ? assembly.target(address, size) : address + size;
    }

    public boolean jumps(int address) {
        return assembly.operationSize(address) > 1;
    }

    public int trace(int address, int bits, int n) {
        if (n < 0 || n > MOST_OPERATIONS) {
            return NONE;
        }
        int here = address;
        for (int k = 0; k < n; k++) {
            int size = assembly.operationSize(here);
            if (size == 0) {
                return here;
            }
            boolean taken = ((bits >>> (k % 32)) & 1) == 1 || assembly.goesAlways(here);
            here = taken ? assembly.target(here, size) : here + size;
        }
        return here;
    }

    private static boolean isLine(int kind, int a, int b) {
        if (kind == LABEL) {
            return isLabel(a) && b == 0;
        }
        if (kind == DATA) {
            return isWithin(a, 1, 200) && isWithin(b, 0, 255);
        }
        if (kind == WORD) {
            return isLabel(a) && isWithin(b, -1000, 1000);
        }
        return kind == JUMP && isLabel(a) && isWithin(b, 0, 7);
    }

    private static boolean isLabel(int label) {
        return isWithin(label, 0, LABELS - 1);
    }

    private static boolean isWithin(int number, int least, int most) {
        return least <= number && number <= most;
    }

    /** Lines in rows of numbers, so that no call makes an object. */
    private static final class Program {
        private final int[] kinds;
        private final int[] firsts;
        private final int[] seconds;
        private int count;

        Program() {
            kinds = new int[MOST_LINES];
            firsts = new int[MOST_LINES];
            seconds = new int[MOST_LINES];
            count = 0;
        }

        boolean has(int line) {
            return 0 <= line && line < count;
        }

        boolean open(int at, int kind, int a, int b) {
            if (count >= MOST_LINES || at < 0 || at > count) {
                return false;
            }
            shift(at, at + 1, count - at);
            kinds[at] = kind;
            firsts[at] = a;
            seconds[at] = b;
            count++;
            return true;
        }

        boolean close(int at) {
            if (!has(at)) {
                return false;
            }
            shift(at + 1, at, count - at - 1);
            count--;
            return true;
        }

        private void shift(int from, int to, int many) {
            System.arraycopy(kinds, from, kinds, to, many);
            System.arraycopy(firsts, from, firsts, to, many);
            System.arraycopy(seconds, from, seconds, to, many);
        }

        void copyFrom(Program other) {
            System.arraycopy(other.kinds, 0, kinds, 0, other.count);
            System.arraycopy(other.firsts, 0, firsts, 0, other.count);
            System.arraycopy(other.seconds, 0, seconds, 0, other.count);
            count = other.count;
        }

        boolean definesTwice() {
            for (int label = 0; label < LABELS; label++) {
                if (countDefined(label) > 1) {
                    return true;
                }
            }
            return false;
        }

        boolean namesUndefined() {
            for (int line = 0; line < count; line++) {
                boolean names = kinds[line] == WORD || kinds[line] == JUMP;
                if (names && countDefined(firsts[line]) == 0) {
                    return true;
                }
            }
            return false;
        }

        private int countDefined(int label) {
            int defined = 0;
            for (int line = 0; line < count; line++) {
                if (kinds[line] == LABEL && firsts[line] == label) {
                    defined++;
                }
            }
            return defined;
        }
    }

    /**
     * What was assembled latest. A byte is worked out from its line when it is asked for: rows of
     * lines are far smaller than a row for the ten thousand bytes that a program may have.
     */
    private static final class Assembly {
        private final Program source;
        private final int[] starts;
        private final int[] forms;
        private final int[] values;

        Assembly() {
            source = new Program();
            starts = new int[MOST_LINES + 1];
            forms = new int[MOST_LINES];
            values = new int[LABELS];
            Arrays.fill(values, NONE);
        }

        int size() {
            return starts[source.count];
        }

        /**
         * Begins with every jump short. A jump that grows only takes labels and jumps further
         * apart, so one that does not reach now never will, and only such ones are made long.
         */
        void make(Program program) {
            source.copyFrom(program);
            makeAllShort();
            place();
            for (int round = 0; round < MOST_LINES && lengthen(); round++) {
                place();
            }
        }

        private void makeAllShort() {
            for (int line = 0; line < source.count; line++) {
                forms[line] = source.kinds[line] == JUMP ? SHORT : NO_JUMP;
            }
        }

        private void place() {
            Arrays.fill(values, NONE);
            int address = 0;
            for (int line = 0; line < source.count; line++) {
                starts[line] = address;
                if (source.kinds[line] == LABEL) {
                    values[source.firsts[line]] = address;
                }
                address += lineSize(line);
            }
            starts[source.count] = address;
        }

        private boolean lengthen() {
            boolean changed = false;
            for (int line = 0; line < source.count; line++) {
                if (forms[line] == SHORT && !isWithin(distance(line), -128, 127)) {
                    forms[line] = LONG;
                    changed = true;
                }
            }
            return changed;
        }

        private int lineSize(int line) {
            int kind = source.kinds[line];
            if (kind == DATA) {
                return source.firsts[line];
            }
            if (kind == WORD) {
                return WORD_SIZE;
            }
            if (forms[line] == LONG) {
                return source.seconds[line] == 0 ? FAR_SIZE : SHORT_SIZE + FAR_SIZE;
            }
            return forms[line] == SHORT ? SHORT_SIZE : 0;
        }

        /** From the address behind a jump to its label. */
        private int distance(int line) {
            return values[source.firsts[line]] - starts[line + 1];
        }

        int countLong() {
            int many = 0;
            for (int line = 0; line < source.count; line++) {
                if (forms[line] == LONG) {
                    many++;
                }
            }
            return many;
        }

        int byteAt(int address) {
            if (address < 0) {
                return NONE;
            }
            for (int line = 0; line < source.count; line++) {
                // The first line that ends behind the address holds it; empty lines never do.
                if (address < starts[line + 1]) {
                    return lineByte(line, address - starts[line]);
                }
            }
            return NONE;
        }

        private int lineByte(int line, int offset) {
            int kind = source.kinds[line];
            if (kind == DATA) {
                return source.seconds[line];
            }
            if (kind == WORD) {
                return pairByte(values[source.firsts[line]] + source.seconds[line], offset);
            }
            return forms[line] == LONG ? longByte(line, offset) : shortByte(line, offset);
        }

        private int shortByte(int line, int offset) {
            return offset == 0 ? SHORT_CODE + source.seconds[line] : distance(line) & 255;
        }

        private int longByte(int line, int offset) {
            int farOffset = lineSize(line) - FAR_SIZE;
            if (offset < farOffset) {
                return offset == 0 ? oppositeCode(source.seconds[line]) : FAR_SIZE;
            }
            return offset == farOffset ? FAR_CODE : pairByte(distance(line), offset - farOffset - 1);
        }

        private static int oppositeCode(int condition) {
            int code = SHORT_CODE + (condition ^ 4);
            // Without the spare code the opposite of condition 4 would be a jump always.
            return code == SHORT_CODE ? SPARE_CODE + condition : code;
        }

        private static int pairByte(int number, int offset) {
            return offset == 0 ? (number >> 8) & 255 : number & 255;
        }

        /** How many bytes the operation there has, or 0 if it is not wholly among the bytes. */
        int operationSize(int address) {
            int code = byteAt(address);
            if (code == NONE) {
                return 0;
            }
            int needed = 1;
            if (isWithin(code, SHORT_CODE, LAST_SHORT_CODE)) {
                needed = SHORT_SIZE;
            } else if (code == FAR_CODE) {
                needed = FAR_SIZE;
            }
            return needed <= size() - address ? needed : 0;
        }

        boolean goesAlways(int address) {
            int code = byteAt(address);
            return code == SHORT_CODE || code == FAR_CODE;
        }

        /** Where a whole operation of that size goes if it is taken; one that is no jump goes on. */
        int target(int address, int size) {
            int behind = address + size;
            if (size == SHORT_SIZE) {
                return behind + (byte) byteAt(address + 1);
            }
            if (size == FAR_SIZE) {
                return behind + (short) (byteAt(address + 1) * 256 + byteAt(address + 2));
            }
            return behind;
        }
    }
}
