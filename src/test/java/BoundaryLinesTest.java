/**
 * The boundary cases of the program's lines: Terms (PROGRAM, LINES) and promises 1 to 4. One method
 * for each sentence; the sentence stands above it.
 */
public final class BoundaryLinesTest {
    public static void main(String[] args) {
        constantIsMinusOne();
        newObjectIsEmpty();
        newObjectHasNothingAssembled();
        numberedFromZero();
        atMostFiftyLines();
        fullRefusesEveryKindAndPlace();
        fullTakesAgainAfterRemove();
        placeBelowOrBehind();
        placeAtTheEnd();
        placeBefore();
        kindTooSmallOrLarge();
        labelTooSmallOrLarge();
        labelWithOtherThanZero();
        dataCountTooSmallOrLarge();
        dataByteTooSmallOrLarge();
        addendTooSmallOrLarge();
        conditionTooSmallOrLarge();
        argumentsAreInTheirOrder();
        labelMayBeDefinedTwice();
        refusedInsertChangesNothing();
        removeWhereNoneIs();
        removeUntilEmpty();
        removeFirstMiddleLast();
        refusedRemoveChangesNothing();
        linesFromZeroToFifty();
        used512Times();
        Check.end("all boundary cases of lines hold");
    }

    /** "NONE = -1: Nothing there." */
    private static void constantIsMinusOne() {
        Check.due("NONE", SpanDesk.NONE, -1);
    }

    /** "An empty program". */
    private static void newObjectIsEmpty() {
        SpanDesk desk = new SpanDesk();
        Check.due("lines", desk.lines(), 0);
        Check.due("nothing to remove", desk.remove(0), false);
        Check.due("no place 1", desk.insert(1, 1, 1, 1), false);
        Check.due("no bytes", Check.assembled(desk), "0");
        Check.due("place 0", desk.insert(0, 1, 1, 1), true);
        Check.due("an object by itself", new SpanDesk().lines(), 0);
    }

    /** "nothing assembled." */
    private static void newObjectHasNothingAssembled() {
        // Another object that has assembled something must not show in a new one.
        SpanDesk other = Check.made(133, Check.label(0), Check.data(130, 32), Check.jump(0, 0));
        SpanDesk desk = new SpanDesk();
        for (int filled = 0; filled < 2; filled++) {
            Check.due("at", desk.at(0), -1);
            Check.due("address", desk.address(0), -1);
            Check.due("form", desk.form(0), -1);
            Check.due("longs", desk.longs(), 0);
            for (int label = 0; label < 16; label++) {
                Check.due("value " + label, desk.value(label), -1);
            }
            Check.due("follow", Check.followed(desk, 0, true), "IndexOutOfBoundsException");
            Check.due("jumps", desk.jumps(0), false);
            Check.due("trace", desk.trace(0, -1, 40), 0);
            // The same once more with lines that have not been assembled.
            Check.append(desk, Check.label(0), Check.data(200, 32), Check.jump(0, 0));
        }
        Check.due("the other one", other.longs(), 1);
    }

    /** "LINES, numbered from 0 on." */
    private static void numberedFromZero() {
        SpanDesk desk = Check.made(3, Check.data(1, 5), Check.data(2, 6));
        Check.due("line 0", desk.address(0), 0);
        Check.due("line 1", desk.address(1), 1);
        Check.due("remove 1", desk.remove(1), true);
        Check.due("one left", Check.assembled(desk), "1");
        Check.dueBytes("line 0 is left", desk, 5);
    }

    /** "A PROGRAM is at most 50 LINES", "False if there are 50". */
    private static void atMostFiftyLines() {
        SpanDesk desk = new SpanDesk();
        for (int k = 0; k < 50; k++) {
            Check.due("line " + k, desk.insert(k, 1, 200, k), true);
        }
        Check.due("a 51st", desk.insert(50, 1, 1, 1), false);
        Check.due("lines", desk.lines(), 50);
        Check.due("bytes", Check.assembled(desk), "10000");
        Check.due("the last line", desk.at(9999), 49);
    }

    /** "False if there are 50": whatever the line is and wherever it would go. */
    private static void fullRefusesEveryKindAndPlace() {
        SpanDesk desk = full();
        for (int at = -1; at <= 51; at++) {
            Check.due("LABEL at " + at, desk.insert(at, 0, 0, 0), false);
            Check.due("DATA at " + at, desk.insert(at, 1, 1, 0), false);
            Check.due("WORD at " + at, desk.insert(at, 2, 0, 0), false);
            Check.due("JUMP at " + at, desk.insert(at, 3, 0, 0), false);
        }
        Check.due("bytes", Check.assembled(desk), "50");
        for (int k = 0; k < 50; k++) {
            Check.due("byte " + k, desk.at(k), k);
        }
    }

    /** "False if there are 50": no longer, once one has gone. */
    private static void fullTakesAgainAfterRemove() {
        SpanDesk desk = full();
        Check.due("one goes", desk.remove(49), true);
        Check.due("place 50 is behind 49 lines", desk.insert(50, 1, 1, 77), false);
        Check.due("one comes", desk.insert(49, 1, 1, 77), true);
        Check.due("full again", desk.insert(49, 1, 1, 78), false);
        Check.due("the first goes", desk.remove(0), true);
        Check.due("one comes first", desk.insert(0, 1, 1, 88), true);
        Check.due("full once more", desk.insert(0, 1, 1, 78), false);
        Check.due("bytes", Check.assembled(desk), "50");
        Check.due("first", desk.at(0), 88);
        Check.due("second", desk.at(1), 1);
        Check.due("last", desk.at(49), 77);
    }

    /** "False if ... at is not 0 .. that". */
    private static void placeBelowOrBehind() {
        for (int count : new int[] {0, 1, 7, 49}) {
            SpanDesk desk = new SpanDesk();
            for (int k = 0; k < count; k++) {
                desk.insert(0, 1, 1, 1);
            }
            Check.due("-1 of " + count, desk.insert(-1, 1, 1, 1), false);
            Check.due("behind " + count, desk.insert(count + 1, 1, 1, 1), false);
            for (int at : Check.WILD) {
                Check.due(at + " of " + count, desk.insert(at, 1, 1, 1), false);
            }
            Check.due("lines", desk.lines(), count);
        }
    }

    /** "at its end, if at is how many there are". */
    private static void placeAtTheEnd() {
        SpanDesk desk = new SpanDesk();
        for (int k = 0; k < 5; k++) {
            Check.due("end " + k, desk.insert(k, 1, 1, 10 + k), true);
        }
        Check.due("bytes", Check.assembled(desk), "5");
        Check.dueBytes("in order", desk, 10, 11, 12, 13, 14);
    }

    /** "A line before line at". */
    private static void placeBefore() {
        SpanDesk desk = Check.desk(Check.data(1, 1), Check.data(2, 2), Check.data(3, 3));
        Check.due("before the last", desk.insert(2, 2, 4, 5), true);
        Check.due("before the first", desk.insert(0, 0, 4, 0), true);
        Check.due("bytes", Check.assembled(desk), "8");
        Check.dueBytes("in order", desk, 1, 2, 2, 0, 5, 3, 3, 3);
        Check.due("the first line", desk.value(4), 0);
    }

    /** "A line is 0 LABEL .., 1 DATA .., 2 WORD .., or 3 JUMP", "False if ... kind ... not as said". */
    private static void kindTooSmallOrLarge() {
        for (int[] rest : new int[][] {{0, 0}, {1, 0}, {1, 1}, {15, 7}}) {
            refuse(-1, rest[0], rest[1]);
            refuse(4, rest[0], rest[1]);
            refuse(5, rest[0], rest[1]);
            for (int kind : Check.WILD) {
                refuse(kind, rest[0], rest[1]);
            }
        }
        take(0, 1, 0);
        take(1, 1, 0);
        take(2, 1, 0);
        take(3, 1, 0);
    }

    /** "Labels are 0 .. 15." */
    private static void labelTooSmallOrLarge() {
        for (int kind : new int[] {0, 2, 3}) {
            for (int label = 0; label < 16; label++) {
                take(kind, label, 0);
            }
            refuse(kind, -1, 0);
            refuse(kind, 16, 0);
            for (int label : Check.WILD) {
                refuse(kind, label, 0);
            }
        }
    }

    /** "LABEL a (b 0)". */
    private static void labelWithOtherThanZero() {
        take(0, 3, 0);
        refuse(0, 3, -1);
        refuse(0, 3, 1);
        for (int b : Check.WILD) {
            refuse(0, 3, b);
        }
    }

    /** "DATA of n bytes (1 .. 200)". */
    private static void dataCountTooSmallOrLarge() {
        take(1, 1, 7);
        take(1, 200, 7);
        refuse(1, 0, 7);
        refuse(1, -1, 7);
        refuse(1, 201, 7);
        for (int many : Check.WILD) {
            refuse(1, many, 7);
        }
        SpanDesk desk = Check.made(201, Check.data(200, 7), Check.data(1, 8));
        Check.due("byte 199", desk.at(199), 7);
        Check.due("byte 200", desk.at(200), 8);
    }

    /** "that all are b (0 .. 255)". */
    private static void dataByteTooSmallOrLarge() {
        take(1, 2, 0);
        take(1, 2, 255);
        refuse(1, 2, -1);
        refuse(1, 2, 256);
        for (int value : Check.WILD) {
            refuse(1, 2, value);
        }
        Check.dueBytes("least and most", Check.made(4, Check.data(2, 0), Check.data(2, 255)), 0, 0, 255, 255);
        Check.dueBytes("signs", Check.made(2, Check.data(1, 127), Check.data(1, 128)), 127, 128);
    }

    /** "an addend d (-1000 .. 1000)". */
    private static void addendTooSmallOrLarge() {
        take(2, 2, -1000);
        take(2, 2, 1000);
        refuse(2, 2, -1001);
        refuse(2, 2, 1001);
        for (int addend : new int[] {Integer.MIN_VALUE, -65536, 65536, Integer.MAX_VALUE}) {
            refuse(2, 2, addend);
        }
    }

    /** "JUMP on a condition c (0 always, 1 .. 7)". */
    private static void conditionTooSmallOrLarge() {
        for (int condition = 0; condition < 8; condition++) {
            take(3, 2, condition);
        }
        refuse(3, 2, -1);
        refuse(3, 2, 8);
        for (int condition : Check.WILD) {
            refuse(3, 2, condition);
        }
    }

    /** "DATA of a bytes b, WORD for a with b, JUMP on b to a." */
    private static void argumentsAreInTheirOrder() {
        take(1, 200, 0);
        take(1, 1, 201);
        take(2, 0, 16);
        take(2, 0, -1);
        take(3, 8, 0);
        refuse(1, 0, 200);
        refuse(2, 16, 0);
        refuse(3, 0, 8);
        Check.dueBytes("DATA 2 of 3", Check.made(2, Check.data(2, 3)), 3, 3);
        Check.dueBytes("WORD 2 with 3", Check.made(2, Check.label(2), Check.word(2, 3)), 0, 3);
        Check.dueBytes("JUMP on 3 to 2", Check.made(2, Check.label(2), Check.jump(2, 3)), 35, 254);
    }

    /** "(A label may be defined twice here.)" */
    private static void labelMayBeDefinedTwice() {
        SpanDesk desk = Check.desk(Check.label(5));
        Check.due("before", desk.insert(0, 0, 5, 0), true);
        Check.due("behind", desk.insert(2, 0, 5, 0), true);
        Check.due("lines", desk.lines(), 3);
    }

    /** "False": and the program is as it was. */
    private static void refusedInsertChangesNothing() {
        SpanDesk desk = Check.desk(Check.data(1, 1), Check.label(3), Check.word(3, 4));
        int[][] refused = {
            {-1, 1, 1, 1}, {4, 1, 1, 1}, {0, -1, 1, 1}, {1, 4, 1, 1}, {0, 0, 16, 0}, {1, 0, 1, 1}, {2, 1, 0, 1},
            {3, 1, 201, 1}, {0, 1, 1, 256}, {1, 2, 16, 0}, {2, 2, 0, 1001}, {3, 3, -1, 0}, {0, 3, 0, 8}
        };
        for (int[] call : refused) {
            Check.due("refused", desk.insert(call[0], call[1], call[2], call[3]), false);
        }
        Check.due("lines", desk.lines(), 3);
        Check.due("bytes", Check.assembled(desk), "3");
        Check.dueBytes("as before", desk, 1, 0, 5);
    }

    /** "false if there is none." (remove) */
    private static void removeWhereNoneIs() {
        for (int count : new int[] {0, 1, 49, 50}) {
            SpanDesk desk = new SpanDesk();
            for (int k = 0; k < count; k++) {
                desk.insert(0, 1, 1, 1);
            }
            Check.due("-1 of " + count, desk.remove(-1), false);
            Check.due("behind " + count, desk.remove(count), false);
            Check.due("further behind " + count, desk.remove(count + 1), false);
            for (int at : Check.WILD) {
                Check.due(at + " of " + count, desk.remove(at), false);
            }
            Check.due("lines", desk.lines(), count);
        }
    }

    /** "Line at goes: true": the last one too. */
    private static void removeUntilEmpty() {
        SpanDesk desk = full();
        for (int left = 49; left >= 0; left--) {
            Check.due("the last of " + left, desk.remove(left), true);
            Check.due("it is gone", desk.remove(left), false);
        }
        Check.due("lines", desk.lines(), 0);
        Check.due("bytes", Check.assembled(desk), "0");
        Check.due("a new first", desk.insert(0, 1, 1, 6), true);
        Check.due("one byte", Check.assembled(desk), "1");
        Check.dueBytes("the new first", desk, 6);
    }

    /** "Line at goes: true". */
    private static void removeFirstMiddleLast() {
        SpanDesk desk = Check.desk(
            Check.data(1, 1), Check.label(1), Check.data(2, 2), Check.word(1, 7), Check.data(1, 4));
        Check.due("the first", desk.remove(0), true);
        Check.due("the middle", desk.remove(1), true);
        Check.due("the last", desk.remove(2), true);
        Check.due("lines", desk.lines(), 2);
        Check.due("bytes", Check.assembled(desk), "2");
        Check.dueBytes("the others", desk, 0, 7);
        Check.due("the label", desk.value(1), 0);
    }

    /** "false if there is none": and the program is as it was. */
    private static void refusedRemoveChangesNothing() {
        SpanDesk desk = Check.desk(Check.data(1, 1), Check.data(1, 2));
        Check.due("below", desk.remove(-1), false);
        Check.due("behind", desk.remove(2), false);
        Check.due("lines", desk.lines(), 2);
        Check.due("bytes", Check.assembled(desk), "2");
        Check.dueBytes("as before", desk, 1, 2);
    }

    /** "How many lines there are." */
    private static void linesFromZeroToFifty() {
        SpanDesk desk = new SpanDesk();
        Check.due("none", desk.lines(), 0);
        for (int k = 1; k <= 50; k++) {
            desk.insert(0, k % 2, 1, 0);
            Check.due("after " + k, desk.lines(), k);
        }
        desk.insert(0, 1, 1, 1);
        Check.due("full", desk.lines(), 50);
        for (int k = 49; k >= 0; k--) {
            desk.remove(0);
            Check.due("down to " + k, desk.lines(), k);
        }
        desk.remove(0);
        Check.due("empty", desk.lines(), 0);
    }

    /** "An object is used for at most 512 calls after it has been made". */
    private static void used512Times() {
        SpanDesk desk = new SpanDesk();
        for (int round = 0; round < 128; round++) {
            Check.due("insert", desk.insert(0, 1, 2, round), true);
            Check.due("assemble", Check.assembled(desk), "2");
            Check.due("remove", desk.remove(0), true);
            Check.due("at", desk.at(1), round);
        }
    }

    private static SpanDesk full() {
        SpanDesk desk = new SpanDesk();
        for (int k = 0; k < 50; k++) {
            desk.insert(k, 1, 1, k);
        }
        return desk;
    }

    private static void take(int kind, int a, int b) {
        SpanDesk desk = new SpanDesk();
        Check.due(kind + " " + a + " " + b, desk.insert(0, kind, a, b), true);
        Check.due(kind + " " + a + " " + b + " is in", desk.lines(), 1);
    }

    private static void refuse(int kind, int a, int b) {
        SpanDesk desk = new SpanDesk();
        Check.due(kind + " " + a + " " + b, desk.insert(0, kind, a, b), false);
        Check.due(kind + " " + a + " " + b + " is not in", desk.lines(), 0);
    }
}
