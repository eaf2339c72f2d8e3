/** What the tests share: lines, objects made from lines, answers as texts, and the count of wrong ones. */
final class Check {
    /** Numbers far outside every range, and some that a narrower number would take for small ones. */
    static final int[] WILD = {
        Integer.MIN_VALUE, Integer.MIN_VALUE + 1, -65536, -65535, -256, -255, 256, 257, 65536, 65537,
        Integer.MAX_VALUE - 1, Integer.MAX_VALUE
    };

    private static int wrong = 0;

    private Check() {
    }

    static int[] label(int label) {
        return new int[] {0, label, 0};
    }

    static int[] data(int many, int value) {
        return new int[] {1, many, value};
    }

    static int[] word(int label, int addend) {
        return new int[] {2, label, addend};
    }

    static int[] jump(int label, int condition) {
        return new int[] {3, label, condition};
    }

    static boolean put(SpanDesk desk, int at, int[] line) {
        return desk.insert(at, line[0], line[1], line[2]);
    }

    static void append(SpanDesk desk, int[]... lines) {
        for (int[] line : lines) {
            int at = desk.lines();
            due("line " + at + " goes in", put(desk, at, line), true);
        }
    }

    static SpanDesk desk(int[]... lines) {
        SpanDesk desk = new SpanDesk();
        for (int k = 0; k < lines.length; k++) {
            due("line " + k + " goes in", put(desk, k, lines[k]), true);
        }
        return desk;
    }

    /** An object that has assembled these lines to so many bytes. */
    static SpanDesk made(int size, int[]... lines) {
        SpanDesk desk = desk(lines);
        due("bytes in all", assembled(desk), "" + size);
        return desk;
    }

    /** An object that has assembled just these bytes. */
    static SpanDesk bytes(int... bytes) {
        int[][] lines = new int[bytes.length][];
        for (int k = 0; k < bytes.length; k++) {
            lines[k] = data(1, bytes[k]);
        }
        return made(bytes.length, lines);
    }

    static String assembled(SpanDesk desk) {
        try {
            return "" + desk.assemble();
        } catch (RuntimeException e) {
            return e.getClass().getSimpleName();
        }
    }

    static String followed(SpanDesk desk, int address, boolean taken) {
        try {
            return "" + desk.follow(address, taken);
        } catch (RuntimeException e) {
            return e.getClass().getSimpleName();
        }
    }

    static void dueBytes(String what, SpanDesk desk, int... want) {
        dueBytesFrom(what, desk, 0, want);
        due(what + " end", desk.at(want.length), -1);
    }

    static void dueBytesFrom(String what, SpanDesk desk, int from, int... want) {
        for (int k = 0; k < want.length; k++) {
            due(what + " byte " + (from + k), desk.at(from + k), want[k]);
        }
    }

    static void due(String what, Object got, Object want) {
        if (!got.equals(want)) {
            wrong++;
            System.out.println(caller() + ": " + what + ": answered " + got + ", due is " + want);
        }
    }

    /** The method that main called, so that a wrong answer tells which sentence is broken. */
    private static String caller() {
        String name = "?";
        for (StackTraceElement frame : new Throwable().getStackTrace()) {
            if (frame.getMethodName().equals("main")) {
                return name;
            }
            name = frame.getMethodName();
        }
        return name;
    }

    static void end(String whenRight) {
        System.out.println(wrong == 0 ? whenRight : wrong + " checks failed");
        if (wrong != 0) {
            System.exit(1);
        }
    }
}
