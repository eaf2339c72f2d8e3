/**
 * The boundary cases of following: Terms (FOLLOWING) and promises 11 to 13. One method for each
 * sentence; the sentence stands above it.
 */
public final class BoundaryFollowTest {
    private static final String OUT = "IndexOutOfBoundsException";

    public static void main(String[] args) {
        operationSizes();
        shortTargets();
        longTargets();
        targetOutsideTheBytes();
        takenOrNot();
        takenWithoutAJump();
        alwaysJumpNotTaken();
        operationOutside();
        operationCutOff();
        operationJustWhole();
        followThrowChangesNothing();
        followLargestProgram();
        jumpsByCode();
        jumpsOutside();
        jumpsCutOff();
        jumpsJustWhole();
        traceCountTooSmallOrLarge();
        traceNoOperation();
        traceOneAndForty();
        traceFirstOperationIsZero();
        traceEachBit();
        traceBitsComeAgain();
        traceBitOfAnOperationWithoutJump();
        traceAlwaysLong();
        traceAlwaysShort();
        traceAlwaysInEitherForm();
        traceNotAlways();
        traceStopsOutside();
        traceStopsWhereCutOff();
        traceFromOutside();
        traceLeavesAndDoesNotReturn();
        traceOfLongForms();
        Check.end("all boundary cases of following hold");
    }

    /** "32 .. 47: two bytes ..; 64: three bytes ..; any other one is one byte and no jump." */
    private static void operationSizes() {
        for (int code = 0; code < 256; code++) {
            SpanDesk desk = Check.bytes(code, 1, 0, 9);
            int size = code >= 32 && code <= 47 ? 2 : code == 64 ? 3 : 1;
            Check.due("behind " + code, Check.followed(desk, 0, false), "" + size);
            Check.due("traced " + code, desk.trace(0, 0, 1), code == 32 ? 3 : code == 64 ? 259 : size);
        }
    }

    /** "A jump goes to the address behind it and its second byte (-128 .. 127)". */
    private static void shortTargets() {
        int[] seconds = {0, 1, 126, 127, 128, 129, 254, 255};
        int[] ways = {0, 1, 126, 127, -128, -127, -2, -1};
        for (int k = 0; k < ways.length; k++) {
            for (int code = 32; code < 48; code++) {
                SpanDesk desk = Check.bytes(9, code, seconds[k], 9);
                Check.due(code + " by " + ways[k], Check.followed(desk, 1, true), "" + (3 + ways[k]));
            }
        }
    }

    /** "or its last two bytes (-32768 .. 32767)". */
    private static void longTargets() {
        int[] ways = {0, 1, 127, 128, 255, 256, 32766, 32767, -32768, -32767, -257, -256, -255, -128, -2, -1};
        for (int way : ways) {
            int pair = way < 0 ? way + 65536 : way;
            SpanDesk desk = Check.bytes(9, 64, pair / 256, pair % 256, 9);
            Check.due("by " + way, Check.followed(desk, 1, true), "" + (4 + way));
        }
    }

    /** "where a jump there goes": even where no byte is. */
    private static void targetOutsideTheBytes() {
        Check.due("below", Check.followed(Check.bytes(33, 253), 0, true), "-1");
        Check.due("at the end", Check.followed(Check.bytes(33, 0), 0, true), "2");
        Check.due("behind", Check.followed(Check.bytes(33, 1), 0, true), "3");
        Check.due("far below", Check.followed(Check.bytes(64, 128, 0), 0, true), "-32765");
        Check.due("far behind", Check.followed(Check.bytes(64, 127, 255), 0, true), "32770");
    }

    /** "where a jump there goes (any one), if taken, else the address behind the operation." */
    private static void takenOrNot() {
        SpanDesk desk = Check.bytes(33, 5, 47, 250, 64, 1, 2);
        Check.due("33 taken", Check.followed(desk, 0, true), "7");
        Check.due("33 not taken", Check.followed(desk, 0, false), "2");
        Check.due("47 taken", Check.followed(desk, 2, true), "-2");
        Check.due("47 not taken", Check.followed(desk, 2, false), "4");
        Check.due("64 taken", Check.followed(desk, 4, true), "265");
        Check.due("64 not taken", Check.followed(desk, 4, false), "7");
    }

    /** "else the address behind the operation": one that is no jump has nowhere else to go. */
    private static void takenWithoutAJump() {
        SpanDesk desk = Check.bytes(0, 31, 48, 63, 65, 255);
        for (int k = 0; k < 6; k++) {
            Check.due("taken " + k, Check.followed(desk, k, true), "" + (k + 1));
            Check.due("not taken " + k, Check.followed(desk, k, false), "" + (k + 1));
        }
    }

    /** "(any one), if taken, else the address behind": an always jump too, for follow asks taken alone. */
    private static void alwaysJumpNotTaken() {
        Check.due("32", Check.followed(Check.bytes(32, 9, 9), 0, false), "2");
        Check.due("64", Check.followed(Check.bytes(64, 9, 9), 0, false), "3");
    }

    /** "IndexOutOfBoundsException if the operation is not wholly among the bytes.": no byte of it is. */
    private static void operationOutside() {
        SpanDesk[] desks = {new SpanDesk(), Check.made(0), Check.bytes(9), Check.bytes(9, 9, 9)};
        int[] sizes = {0, 0, 1, 3};
        for (int k = 0; k < desks.length; k++) {
            dueOut(desks[k], -1);
            dueOut(desks[k], sizes[k]);
            dueOut(desks[k], sizes[k] + 1);
            for (int address : Check.WILD) {
                dueOut(desks[k], address);
            }
        }
    }

    /** "not wholly among the bytes": only its first ones are. */
    private static void operationCutOff() {
        for (int code = 32; code < 48; code++) {
            dueOut(Check.bytes(code), 0);
            dueOut(Check.bytes(9, code), 1);
        }
        dueOut(Check.bytes(64), 0);
        dueOut(Check.bytes(64, 0), 0);
        dueOut(Check.bytes(9, 64, 0), 1);
        dueOut(Check.bytes(9, 9, 64), 2);
    }

    /** "not wholly among the bytes": its last byte is the last of all. */
    private static void operationJustWhole() {
        Check.due("one byte", Check.followed(Check.bytes(9), 0, true), "1");
        Check.due("two bytes", Check.followed(Check.bytes(47, 3), 0, true), "5");
        Check.due("two last bytes", Check.followed(Check.bytes(9, 33, 3), 1, true), "6");
        Check.due("three bytes", Check.followed(Check.bytes(64, 0, 3), 0, true), "6");
        Check.due("three last bytes", Check.followed(Check.bytes(9, 64, 0, 3), 1, true), "7");
    }

    /** "What throws changes nothing." (follow) */
    private static void followThrowChangesNothing() {
        SpanDesk desk = Check.made(132, Check.jump(1, 0), Check.data(128, 9), Check.label(1), Check.data(1, 33));
        dueOut(desk, 131);
        dueOut(desk, -1);
        Check.due("lines", desk.lines(), 4);
        Check.due("at", desk.at(131), 33);
        Check.due("address", desk.address(3), 131);
        Check.due("form", desk.form(0), 2);
        Check.due("longs", desk.longs(), 1);
        Check.due("value", desk.value(1), 131);
        Check.due("follow", Check.followed(desk, 0, true), "131");
    }

    /** "not wholly among the bytes": of ten thousand. */
    private static void followLargestProgram() {
        SpanDesk desk = new SpanDesk();
        for (int k = 0; k < 50; k++) {
            Check.append(desk, Check.data(200, k == 49 ? 64 : 9));
        }
        Check.due("bytes", Check.assembled(desk), "10000");
        Check.due("the last whole one", Check.followed(desk, 9997, true), "26448");
        dueOut(desk, 9998);
        dueOut(desk, 9999);
        dueOut(desk, 10000);
        Check.due("traced", desk.trace(9799, 0, 2), 26251);
    }

    /** "Whether the operation at an address is a jump": by each code. */
    private static void jumpsByCode() {
        for (int code = 0; code < 256; code++) {
            SpanDesk desk = Check.bytes(code, 9, 9);
            Check.due("code " + code, desk.jumps(0), code >= 32 && code <= 47 || code == 64);
        }
    }

    /** "false if it is not wholly among the bytes.": no byte of it is. */
    private static void jumpsOutside() {
        SpanDesk[] desks = {new SpanDesk(), Check.made(0), Check.bytes(32, 32, 32)};
        int[] sizes = {0, 0, 3};
        for (int k = 0; k < desks.length; k++) {
            Check.due("-1 of " + sizes[k], desks[k].jumps(-1), false);
            Check.due("behind " + sizes[k], desks[k].jumps(sizes[k]), false);
            for (int address : Check.WILD) {
                Check.due(address + " of " + sizes[k], desks[k].jumps(address), false);
            }
        }
    }

    /** "false if it is not wholly among the bytes.": only its first ones are. */
    private static void jumpsCutOff() {
        for (int code = 32; code < 48; code++) {
            Check.due("one byte of " + code, Check.bytes(9, code).jumps(1), false);
        }
        Check.due("one byte of 64", Check.bytes(9, 64).jumps(1), false);
        Check.due("two bytes of 64", Check.bytes(9, 64, 9).jumps(1), false);
    }

    /** "wholly among the bytes": its last byte is the last of all. */
    private static void jumpsJustWhole() {
        for (int code = 32; code < 48; code++) {
            Check.due("two bytes of " + code, Check.bytes(9, code, 9).jumps(1), true);
        }
        Check.due("three bytes of 64", Check.bytes(9, 64, 9, 9).jumps(1), true);
        Check.due("within another one", Check.bytes(64, 33, 9).jumps(1), true);
    }

    /** "up to n operations (0 .. 40)", "NONE if n is not so." */
    private static void traceCountTooSmallOrLarge() {
        SpanDesk[] desks = {new SpanDesk(), Check.made(200, Check.data(200, 9))};
        for (SpanDesk desk : desks) {
            Check.due("-1", desk.trace(5, 0, -1), -1);
            Check.due("41", desk.trace(5, 0, 41), -1);
            for (int n : Check.WILD) {
                Check.due("n " + n, desk.trace(5, -1, n), -1);
                Check.due("n " + n + " from outside", desk.trace(-7, -1, n), -1);
            }
        }
    }

    /** "up to n operations (0 ..": none goes nowhere, wherever it begins. */
    private static void traceNoOperation() {
        SpanDesk desk = Check.bytes(64, 0, 5, 9);
        for (int address = -3; address < 8; address++) {
            Check.due("from " + address, desk.trace(address, -1, 0), address);
        }
        for (int address : Check.WILD) {
            Check.due("from " + address, desk.trace(address, -1, 0), address);
        }
    }

    /** "up to n operations (.. 40)". */
    private static void traceOneAndForty() {
        SpanDesk desk = Check.made(200, Check.data(200, 9));
        for (int n = 0; n <= 40; n++) {
            Check.due("n " + n, desk.trace(7, -1, n), 7 + n);
        }
        SpanDesk loop = Check.made(3, Check.label(0), Check.data(1, 9), Check.jump(0, 0));
        Check.due("thirty-nine round a loop", loop.trace(0, 0, 39), 1);
        Check.due("forty round a loop", loop.trace(0, 0, 40), 0);
    }

    /** "k = 0 the first operation". */
    private static void traceFirstOperationIsZero() {
        SpanDesk desk = Check.bytes(33, 1, 9, 33, 1, 9);
        Check.due("bit 0", desk.trace(0, 1, 1), 3);
        Check.due("bit 1 alone", desk.trace(0, 2, 1), 2);
        Check.due("all but bit 0", desk.trace(0, -2, 1), 2);
        Check.due("from further on", desk.trace(3, 1, 1), 6);
        Check.due("bits 0 and 1", desk.trace(0, 3, 2), 6);
    }

    /** "those being taken for which bit k ... of bits is 1": each of the 32. */
    private static void traceEachBit() {
        for (int k = 0; k < 32; k++) {
            SpanDesk desk = k == 0 ? Check.made(52, Check.data(1, 33), Check.data(1, 20), Check.data(50, 9))
                : Check.made(k + 52, Check.data(k, 9), Check.data(1, 33), Check.data(1, 20), Check.data(50, 9));
            Check.due("bit " + k, desk.trace(0, 1 << k, k + 1), k + 22);
            Check.due("all but bit " + k, desk.trace(0, ~(1 << k), k + 1), k + 2);
        }
    }

    /** "bit k mod 32": operations 32 to 39 have bits 0 to 7. */
    private static void traceBitsComeAgain() {
        for (int k = 32; k < 40; k++) {
            SpanDesk desk = Check.made(k + 52, Check.data(k, 9), Check.data(1, 47), Check.data(1, 20), Check.data(50, 9));
            Check.due("operation " + k, desk.trace(0, 1 << (k - 32), k + 1), k + 22);
            Check.due("operation " + k + " without", desk.trace(0, ~(1 << (k - 32)), k + 1), k + 2);
        }
    }

    /** "(k = 0 the first operation": one that is no jump has its number, too. */
    private static void traceBitOfAnOperationWithoutJump() {
        SpanDesk desk = Check.bytes(9, 33, 1, 9, 9, 33, 1, 9);
        Check.due("bits 1 and 3", desk.trace(0, 2 + 8, 4), 8);
        Check.due("bits 0 and 1", desk.trace(0, 1 + 2, 4), 7);
        Check.due("bits 0 and 2", desk.trace(0, 1 + 4, 3), 4);
    }

    /** "those always that are always": "64: three bytes, a jump always". */
    private static void traceAlwaysLong() {
        Check.due("64", Check.bytes(64, 0, 2, 9, 9, 9).trace(0, 0, 1), 5);
        Check.due("64 with its bit", Check.bytes(64, 0, 2, 9, 9, 9).trace(0, 1, 1), 5);
    }

    /** "those always that are always": "a condition c (0 always, 1 .. 7)", "JUMP short: 32 + c". */
    private static void traceAlwaysShort() {
        SpanDesk desk = Check.made(4, Check.jump(0, 0), Check.data(2, 9), Check.label(0));
        Check.due("a short JUMP on 0", desk.trace(0, 0, 1), 4);
        Check.due("a short JUMP on 0 with its bit", desk.trace(0, 1, 1), 4);
        Check.due("32 that DATA wrote", Check.bytes(32, 2, 9, 9).trace(0, 0, 1), 4);
    }

    /** "a condition c (0 always": the same way in either form, whatever the bits are. */
    private static void traceAlwaysInEitherForm() {
        for (int between = 120; between <= 135; between++) {
            SpanDesk desk = Check.desk(Check.jump(0, 0), Check.data(between, 9), Check.label(0));
            Check.assembled(desk);
            for (int bits : new int[] {0, 1, -2, -1}) {
                Check.due("over " + between + " with " + bits, desk.trace(0, bits, 40), desk.value(0));
            }
        }
    }

    /** "those always that are always": no other one. */
    private static void traceNotAlways() {
        for (int code = 33; code < 48; code++) {
            Check.due("code " + code, Check.bytes(code, 3, 9, 9, 9, 9).trace(0, -2, 1), 2);
        }
    }

    /** "as long as they are wholly among the bytes": it stops before the start and behind the end. */
    private static void traceStopsOutside() {
        Check.due("at the end", Check.bytes(9, 9, 9).trace(0, -1, 40), 3);
        Check.due("behind the end", Check.bytes(9, 33, 100).trace(0, -1, 40), 103);
        Check.due("just below", Check.bytes(33, 253).trace(0, 1, 40), -1);
        Check.due("below", Check.bytes(33, 128, 9).trace(0, -1, 40), -126);
        Check.due("far below", Check.bytes(64, 128, 0).trace(0, 0, 40), -32765);
        Check.due("far behind", Check.bytes(64, 127, 255).trace(0, 0, 40), 32770);
    }

    /** "as long as they are wholly among the bytes": it stops at one that is cut off. */
    private static void traceStopsWhereCutOff() {
        Check.due("one of two", Check.bytes(9, 9, 33).trace(0, -1, 40), 2);
        Check.due("one of three", Check.bytes(9, 9, 64).trace(0, -1, 40), 2);
        Check.due("two of three", Check.bytes(9, 64, 0).trace(0, -1, 40), 1);
        Check.due("two of two", Check.bytes(9, 33, 0).trace(0, -1, 40), 3);
        Check.due("three of three", Check.bytes(9, 64, 0, 0).trace(0, -1, 40), 4);
    }

    /** "From an address on ...: the address come to": from outside it goes nowhere. */
    private static void traceFromOutside() {
        SpanDesk[] desks = {new SpanDesk(), Check.made(0), Check.bytes(32, 254)};
        for (SpanDesk desk : desks) {
            for (int address : new int[] {-2, -1, 2, 3}) {
                Check.due("from " + address, desk.trace(address, -1, 40), address);
            }
            for (int address : Check.WILD) {
                Check.due("from " + address, desk.trace(address, -1, 40), address);
            }
        }
    }

    /** "as long as": what comes behind one that is not among the bytes is not gone to. */
    private static void traceLeavesAndDoesNotReturn() {
        SpanDesk desk = Check.bytes(33, 252, 9, 9);
        Check.due("below, where stepping on would come back", desk.trace(0, 1, 40), -2);
        SpanDesk cut = Check.bytes(9, 64, 9);
        Check.due("cut off, though a byte is behind it", cut.trace(0, 0, 40), 1);
    }

    /** A long JUMP on a condition is two operations: the opposite one, and one that is always. */
    private static void traceOfLongForms() {
        for (int c = 1; c < 8; c++) {
            SpanDesk desk = Check.made(133, Check.jump(0, c), Check.data(128, 9), Check.label(0));
            Check.due("goes on " + c, desk.trace(0, 0, 2), 133);
            Check.due("does not go on " + c, desk.trace(0, 1, 1), 5);
        }
    }

    private static void dueOut(SpanDesk desk, int address) {
        Check.due("taken from " + address, Check.followed(desk, address, true), OUT);
        Check.due("not taken from " + address, Check.followed(desk, address, false), OUT);
    }
}
