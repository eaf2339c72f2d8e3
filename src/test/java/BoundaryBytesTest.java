/**
 * The boundary cases of the bytes: Terms (THE BYTES) and promise 6. One method for each sentence; the
 * sentence stands above it.
 */
public final class BoundaryBytesTest {
    public static void main(String[] args) {
        dataBytes();
        wordWrapsBelowZero();
        wordAcrossTheLowByte();
        wordAtItsLargest();
        shortCodes();
        shortDistances();
        longAlwaysForward();
        longAlwaysBackward();
        longDistanceAcrossTheLowByte();
        longFarthest();
        oppositeConditions();
        oppositeOfFour();
        longOnConditionCountsBehindAll();
        linesWithoutBytes();
        byteOfNone();
        byteFirstAndLast();
        byteOfTheLatest();
        Check.end("all boundary cases of bytes hold");
    }

    /** "DATA its bytes." */
    private static void dataBytes() {
        Check.dueBytes("one of each", Check.made(2, Check.data(1, 0), Check.data(1, 255)), 0, 255);
        SpanDesk desk = Check.made(200, Check.data(200, 129));
        for (int k = 0; k < 200; k++) {
            Check.due("byte " + k, desk.at(k), 129);
        }
        Check.due("behind", desk.at(200), -1);
    }

    /** "WORD the lowest 16 bits of the label's value and d": below zero they wrap around. */
    private static void wordWrapsBelowZero() {
        SpanDesk desk = Check.made(8,
            Check.label(0), Check.word(0, -1), Check.word(0, -1000), Check.word(0, -256), Check.word(0, -257));
        Check.dueBytes("wrapped", desk, 255, 255, 252, 24, 255, 0, 254, 255);
        Check.dueBytes("just not", Check.made(3, Check.data(1, 9), Check.label(0), Check.word(0, -1)), 9, 0, 0);
        Check.dueBytes("just so", Check.made(3, Check.data(1, 9), Check.label(0), Check.word(0, -2)), 9, 255, 255);
    }

    /** "the higher eight first." */
    private static void wordAcrossTheLowByte() {
        SpanDesk desk = Check.made(10,
            Check.label(0), Check.word(0, 127), Check.word(0, 128), Check.word(0, 255), Check.word(0, 256), Check.word(0, 1000));
        Check.dueBytes("words", desk, 0, 127, 0, 128, 0, 255, 1, 0, 3, 232);
        SpanDesk carry = Check.made(257, Check.data(200, 9), Check.data(55, 9), Check.label(3), Check.word(3, 1));
        Check.dueBytesFrom("255 and 1", carry, 255, 1, 0);
    }

    /** "WORD the lowest 16 bits ...": of the largest value and addend. */
    private static void wordAtItsLargest() {
        SpanDesk desk = Check.desk(Check.word(15, 1000));
        for (int k = 0; k < 48; k++) {
            Check.append(desk, Check.data(200, 9));
        }
        Check.append(desk, Check.label(15));
        Check.due("bytes", Check.assembled(desk), "9602");
        Check.dueBytesFrom("10602", desk, 0, 41, 106, 9);
    }

    /** "JUMP short: 32 + c". */
    private static void shortCodes() {
        for (int c = 0; c < 8; c++) {
            Check.dueBytes("on " + c, Check.made(2, Check.jump(0, c), Check.label(0)), 32 + c, 0);
        }
    }

    /** "the lowest eight bits of the label's value less the address behind the jump." */
    private static void shortDistances() {
        for (int way = 1; way <= 127; way++) {
            SpanDesk desk = Check.made(2 + way, Check.jump(0, 3), Check.data(way, 9), Check.label(0));
            Check.dueBytesFrom("forward " + way, desk, 0, 35, way, 9);
        }
        for (int way = -128; way <= -3; way++) {
            SpanDesk desk = Check.made(-way, Check.label(0), Check.data(-way - 2, 9), Check.jump(0, 0));
            Check.dueBytesFrom("backward " + way, desk, -way - 2, 32, 256 + way, -1);
        }
        Check.dueBytes("itself", Check.made(2, Check.label(0), Check.jump(0, 1)), 33, 254);
    }

    /** "JUMP long: if c is 0: 64, and the label's value less the address behind it, 16 bits". */
    private static void longAlwaysForward() {
        SpanDesk desk = Check.made(131, Check.jump(0, 0), Check.data(128, 9), Check.label(0));
        Check.dueBytesFrom("128", desk, 0, 64, 0, 128, 9);
    }

    /** "16 bits": of a number below zero. */
    private static void longAlwaysBackward() {
        SpanDesk desk = Check.made(130, Check.label(0), Check.data(127, 9), Check.jump(0, 0));
        Check.dueBytesFrom("-130", desk, 126, 9, 64, 255, 126, -1);
    }

    /** "16 bits, the higher eight first": around 256. */
    private static void longDistanceAcrossTheLowByte() {
        for (int way = 254; way <= 258; way++) {
            SpanDesk forward = Check.made(3 + way, Check.jump(0, 0), Check.data(200, 9), Check.data(way - 200, 9), Check.label(0));
            Check.dueBytesFrom("forward " + way, forward, 0, 64, way / 256, way % 256, 9);
            SpanDesk backward = Check.made(way, Check.label(0), Check.data(200, 9), Check.data(way - 203, 9), Check.jump(0, 0));
            int wrapped = 65536 - way;
            Check.dueBytesFrom("backward " + way, backward, way - 3, 64, wrapped / 256, wrapped % 256, -1);
        }
    }

    /** "16 bits": of the farthest labels that a program can have. */
    private static void longFarthest() {
        SpanDesk forward = Check.desk(Check.jump(0, 4));
        SpanDesk backward = Check.desk(Check.label(0));
        for (int k = 0; k < 48; k++) {
            Check.append(forward, Check.data(200, 9));
            Check.append(backward, Check.data(200, 9));
        }
        Check.append(forward, Check.label(0));
        Check.append(backward, Check.jump(0, 4));
        Check.due("forward bytes", Check.assembled(forward), "9605");
        Check.dueBytesFrom("9600", forward, 0, 44, 3, 64, 37, 128, 9);
        Check.due("backward bytes", Check.assembled(backward), "9605");
        Check.dueBytesFrom("-9605", backward, 9600, 44, 3, 64, 218, 123, -1);
    }

    /** "first a short jump on the opposite condition (32 + (c xor 4) ...) over the three bytes (3)". */
    private static void oppositeConditions() {
        int[] opposite = {0, 37, 38, 39, 44, 33, 34, 35};
        for (int c = 1; c < 8; c++) {
            SpanDesk desk = Check.made(133, Check.jump(0, c), Check.data(128, 9), Check.label(0));
            Check.dueBytesFrom("on " + c, desk, 0, opposite[c], 3, 64, 0, 128, 9);
        }
    }

    /** "but if that is 32 then 40 + c". */
    private static void oppositeOfFour() {
        SpanDesk desk = Check.made(133, Check.jump(0, 4), Check.data(128, 9), Check.label(0));
        Check.due("not 32", desk.at(0), 44);
        SpanDesk near = Check.made(2, Check.jump(0, 4), Check.label(0));
        Check.due("short on 4 as ever", near.at(0), 36);
    }

    /** "then these as for c = 0, the address behind them counting." */
    private static void longOnConditionCountsBehindAll() {
        SpanDesk desk = Check.made(132, Check.label(0), Check.data(127, 9), Check.jump(0, 1));
        Check.dueBytesFrom("-132", desk, 127, 37, 3, 64, 255, 124, -1);
        SpanDesk two = Check.made(138, Check.label(0), Check.data(128, 9), Check.jump(0, 7), Check.jump(0, 4));
        Check.dueBytesFrom("two", two, 128, 35, 3, 64, 255, 123, 44, 3, 64, 255, 118, -1);
    }

    /** "THE BYTES, line by line": a LABEL has none, wherever it stands. */
    private static void linesWithoutBytes() {
        SpanDesk desk = Check.made(5,
            Check.label(0), Check.label(1), Check.data(1, 1), Check.label(2), Check.word(2, 0), Check.label(3), Check.label(4),
            Check.jump(4, 0), Check.label(5));
        Check.dueBytes("between labels", desk, 1, 0, 1, 32, 254);
        Check.due("no byte of labels", Check.made(0, Check.label(0), Check.label(1)).at(0), -1);
    }

    /** "NONE if there is none." (at) */
    private static void byteOfNone() {
        SpanDesk[] desks = {new SpanDesk(), Check.made(0), Check.bytes(7), Check.made(200, Check.data(200, 7))};
        int[] sizes = {0, 0, 1, 200};
        for (int k = 0; k < desks.length; k++) {
            Check.due("-1 of " + sizes[k], desks[k].at(-1), -1);
            Check.due("behind " + sizes[k], desks[k].at(sizes[k]), -1);
            Check.due("further behind " + sizes[k], desks[k].at(sizes[k] + 1), -1);
            for (int at : Check.WILD) {
                Check.due(at + " of " + sizes[k], desks[k].at(at), -1);
            }
        }
    }

    /** "Byte k": from 0 on, to the last. */
    private static void byteFirstAndLast() {
        SpanDesk desk = new SpanDesk();
        for (int k = 0; k < 50; k++) {
            Check.append(desk, Check.data(200, 100 + k));
        }
        Check.due("bytes", Check.assembled(desk), "10000");
        for (int k = 0; k < 50; k++) {
            Check.due("first of line " + k, desk.at(200 * k), 100 + k);
            Check.due("last of line " + k, desk.at(200 * k + 199), 100 + k);
        }
        Check.due("behind", desk.at(10000), -1);
    }

    /** "of what was assembled latest". */
    private static void byteOfTheLatest() {
        SpanDesk desk = Check.bytes(1, 2, 3);
        desk.remove(0);
        Check.dueBytes("not yet", desk, 1, 2, 3);
        Check.due("bytes", Check.assembled(desk), "2");
        Check.dueBytes("now", desk, 2, 3);
        desk.insert(2, 2, 0, 0);
        Check.due("refused", Check.assembled(desk), "IllegalStateException");
        Check.dueBytes("still", desk, 2, 3);
    }
}
