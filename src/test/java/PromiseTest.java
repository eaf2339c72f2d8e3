/** The promises one by one: ordinary inputs, the edges that the document names, wrong inputs. */
public final class PromiseTest {
    private static final int LABEL = 0;
    private static final int DATA = 1;
    private static final int WORD = 2;
    private static final int JUMP = 3;
    private static final int[] WILD = {
        Integer.MIN_VALUE, Integer.MIN_VALUE + 1, -1001, -2, -1, 0, 1, 15, 16, 49, 50, 51, 10000,
        Integer.MAX_VALUE - 2, Integer.MAX_VALUE - 1, Integer.MAX_VALUE
    };

    public static void main(String[] args) {
        newObject();
        insertRanges();
        insertPlaces();
        insertUpToFifty();
        remove();
        lines();
        assembleForwardEdge();
        assembleBackwardEdge();
        assembleChain();
        assembleThrows();
        assembleThrowChangesNothing();
        assembleStays();
        atJumpBytes();
        atWordsAndData();
        address();
        form();
        longs();
        value();
        follow();
        followOutside();
        jumps();
        traceBits();
        traceAlways();
        traceEdges();
        wildArguments();
        readmeExample();
        Check.end("all promises hold");
    }

    private static void newObject() {
        SpanDesk desk = new SpanDesk();
        Check.due("1 NONE", SpanDesk.NONE, -1);
        Check.due("1 lines", desk.lines(), 0);
        Check.due("1 at", desk.at(0), -1);
        Check.due("1 address", desk.address(0), -1);
        Check.due("1 form", desk.form(0), -1);
        Check.due("1 longs", desk.longs(), 0);
        Check.due("1 value", desk.value(0), -1);
        Check.due("1 follow", Check.followed(desk, 0, true), "IndexOutOfBoundsException");
        Check.due("1 jumps", desk.jumps(0), false);
        Check.due("1 trace", desk.trace(7, -1, 40), 7);
        Check.due("1 remove", desk.remove(0), false);
        Check.due("1 assemble", Check.assembled(desk), "0");
    }

    private static void insertRanges() {
        int[][] good = {
            {LABEL, 0, 0}, {LABEL, 15, 0}, {LABEL, 15, 0}, {DATA, 1, 0}, {DATA, 200, 255},
            {WORD, 0, -1000}, {WORD, 15, 1000}, {JUMP, 0, 0}, {JUMP, 15, 7}
        };
        int[][] bad = {
            {LABEL, -1, 0}, {LABEL, 16, 0}, {LABEL, 0, 1}, {LABEL, 0, -1},
            {DATA, 0, 0}, {DATA, 201, 0}, {DATA, 1, -1}, {DATA, 1, 256},
            {WORD, -1, 0}, {WORD, 16, 0}, {WORD, 0, -1001}, {WORD, 0, 1001},
            {JUMP, -1, 0}, {JUMP, 16, 0}, {JUMP, 0, -1}, {JUMP, 0, 8},
            {-1, 1, 0}, {4, 1, 0}, {Integer.MIN_VALUE, 1, 0}, {Integer.MAX_VALUE, 1, 0}
        };
        SpanDesk desk = new SpanDesk();
        for (int[] line : good) {
            Check.due("2 good " + line[0], desk.insert(0, line[0], line[1], line[2]), true);
        }
        for (int[] line : bad) {
            Check.due("2 bad " + line[0], desk.insert(0, line[0], line[1], line[2]), false);
        }
        Check.due("2 only the good ones", desk.lines(), good.length);
    }

    private static void insertPlaces() {
        SpanDesk desk = new SpanDesk();
        Check.due("2 behind the end", desk.insert(1, DATA, 1, 1), false);
        Check.due("2 before the start", desk.insert(-1, DATA, 1, 1), false);
        Check.due("2 first", desk.insert(0, DATA, 1, 10), true);
        Check.due("2 at the end", desk.insert(1, DATA, 2, 20), true);
        Check.due("2 between", desk.insert(1, DATA, 3, 30), true);
        Check.due("2 at the start", desk.insert(0, DATA, 1, 40), true);
        Check.due("2 behind the new end", desk.insert(5, DATA, 1, 1), false);
        Check.assembled(desk);
        Check.dueBytes("2 order", desk, 40, 10, 30, 30, 30, 20, 20);
    }

    private static void insertUpToFifty() {
        SpanDesk desk = new SpanDesk();
        for (int k = 0; k < 50; k++) {
            Check.due("2 line " + k, desk.insert(k, DATA, 200, k), true);
        }
        Check.due("2 a 51st at the end", desk.insert(50, DATA, 1, 1), false);
        Check.due("2 a 51st at the start", desk.insert(0, LABEL, 1, 0), false);
        Check.due("2 fifty", desk.lines(), 50);
        Check.due("2 the largest program", Check.assembled(desk), "10000");
        Check.due("2 its last byte", desk.at(9999), 49);
        Check.due("2 behind it", desk.at(10000), -1);
        Check.due("2 its last line", desk.address(49), 9800);
        Check.due("2 no line 50", desk.address(50), -1);
        Check.due("2 one goes", desk.remove(0), true);
        Check.due("2 one comes", desk.insert(49, LABEL, 3, 0), true);
        Check.due("2 full again", desk.insert(49, LABEL, 4, 0), false);
        Check.due("2 a label behind all", Check.assembled(desk), "9800");
        Check.due("2 its value", desk.value(3), 9800);
    }

    private static void remove() {
        SpanDesk desk = Check.desk(new int[][] {{DATA, 1, 1}, {DATA, 1, 2}, {DATA, 1, 3}, {DATA, 1, 4}});
        Check.due("3 below", desk.remove(-1), false);
        Check.due("3 behind", desk.remove(4), false);
        Check.due("3 the middle", desk.remove(1), true);
        Check.assembled(desk);
        Check.dueBytes("3 the middle went", desk, 1, 3, 4);
        Check.due("3 the last", desk.remove(2), true);
        Check.due("3 the last is gone", desk.remove(2), false);
        Check.assembled(desk);
        Check.dueBytes("3 the last went", desk, 1, 3);
        Check.due("3 the first", desk.remove(0), true);
        Check.assembled(desk);
        Check.dueBytes("3 the first went", desk, 3);
        Check.due("3 the only one", desk.remove(0), true);
        Check.due("3 from nothing", desk.remove(0), false);
        Check.due("3 empty", Check.assembled(desk), "0");
    }

    private static void lines() {
        SpanDesk desk = new SpanDesk();
        desk.insert(0, LABEL, 1, 0);
        Check.due("4 a label counts", desk.lines(), 1);
        desk.insert(0, DATA, 200, 0);
        Check.due("4 data is one line", desk.lines(), 2);
        desk.insert(9, DATA, 200, 0);
        Check.due("4 a refused one does not count", desk.lines(), 2);
        Check.assembled(desk);
        desk.remove(0);
        Check.due("4 the program, not the assembly", desk.lines(), 1);
        desk.remove(7);
        Check.due("4 nothing went", desk.lines(), 1);
    }

    private static void assembleForwardEdge() {
        SpanDesk near = Check.desk(new int[][] {{JUMP, 0, 0}, {DATA, 127, 9}, {LABEL, 0, 0}});
        Check.due("5 forward 127", Check.assembled(near), "129");
        Check.due("5 forward 127 is short", near.form(0), 1);
        Check.due("5 forward 127 byte", near.at(1), 127);
        SpanDesk far = Check.desk(new int[][] {{JUMP, 0, 0}, {DATA, 128, 9}, {LABEL, 0, 0}});
        Check.due("5 forward 128", Check.assembled(far), "131");
        Check.due("5 forward 128 is long", far.form(0), 2);
        SpanDesk condition = Check.desk(new int[][] {{JUMP, 0, 5}, {DATA, 128, 9}, {LABEL, 0, 0}});
        Check.due("5 forward 128 on a condition", Check.assembled(condition), "133");
    }

    private static void assembleBackwardEdge() {
        SpanDesk near = Check.desk(new int[][] {{LABEL, 0, 0}, {DATA, 126, 9}, {JUMP, 0, 6}});
        Check.due("5 backward 128", Check.assembled(near), "128");
        Check.due("5 backward 128 byte", near.at(127), 128);
        SpanDesk far = Check.desk(new int[][] {{LABEL, 0, 0}, {DATA, 127, 9}, {JUMP, 0, 6}});
        Check.due("5 backward 129", Check.assembled(far), "132");
        Check.due("5 backward 129 is long", far.form(2), 2);
    }

    /** Each jump reaches only as long as the one behind it is short. */
    private static void assembleChain() {
        SpanDesk desk = Check.desk(new int[][] {
            {JUMP, 0, 1}, {JUMP, 1, 1}, {JUMP, 2, 0}, {DATA, 123, 9},
            {LABEL, 0, 0}, {DATA, 2, 9}, {LABEL, 1, 0}, {DATA, 2, 9}, {LABEL, 2, 0}
        });
        Check.due("5 a chain, all short", Check.assembled(desk), "133");
        Check.due("5 a chain, none long", desk.longs(), 0);
        desk.insert(8, DATA, 1, 9);
        Check.due("5 a chain, all long", Check.assembled(desk), "141");
        Check.due("5 a chain, three long", desk.longs(), 3);
        desk.remove(8);
        Check.due("5 a chain, short again", Check.assembled(desk), "133");
    }

    private static void assembleThrows() {
        Check.due("5 twice", Check.assembled(Check.desk(new int[][] {{LABEL, 4, 0}, {LABEL, 4, 0}})), "IllegalArgumentException");
        Check.due("5 twice the last", Check.assembled(Check.desk(new int[][] {{LABEL, 15, 0}, {LABEL, 15, 0}})), "IllegalArgumentException");
        Check.due("5 no label for a word", Check.assembled(Check.desk(new int[][] {{WORD, 4, 0}})), "IllegalStateException");
        Check.due("5 no label for a jump", Check.assembled(Check.desk(new int[][] {{LABEL, 3, 0}, {JUMP, 4, 0}})), "IllegalStateException");
        Check.due("5 both", Check.assembled(Check.desk(new int[][] {{WORD, 1, 0}, {LABEL, 4, 0}, {LABEL, 4, 0}})), "IllegalArgumentException");
        Check.due("5 data names no label", Check.assembled(Check.desk(new int[][] {{DATA, 4, 0}})), "4");
        Check.due("5 an unused label", Check.assembled(Check.desk(new int[][] {{LABEL, 4, 0}})), "0");
    }

    private static void assembleThrowChangesNothing() {
        SpanDesk desk = Check.desk(new int[][] {{JUMP, 2, 0}, {DATA, 128, 7}, {LABEL, 2, 0}});
        Check.assembled(desk);
        desk.insert(0, DATA, 5, 5);
        desk.insert(4, LABEL, 2, 0);
        Check.due("5 throws for two", Check.assembled(desk), "IllegalArgumentException");
        dueLongForward("5 after two", desk);
        desk.remove(4);
        desk.remove(3);
        Check.due("5 throws for none", Check.assembled(desk), "IllegalStateException");
        dueLongForward("5 after none", desk);
        Check.due("5 the lines stay", desk.lines(), 3);
    }

    private static void assembleStays() {
        SpanDesk desk = Check.desk(new int[][] {{JUMP, 2, 0}, {DATA, 128, 7}, {LABEL, 2, 0}});
        Check.assembled(desk);
        desk.insert(0, DATA, 200, 1);
        desk.remove(2);
        desk.remove(2);
        dueLongForward("5 edits alone", desk);
        desk.remove(1);
        desk.remove(0);
        dueLongForward("5 an empty program", desk);
        Check.due("5 done again", Check.assembled(desk), "0");
        Check.due("5 no byte", desk.at(0), -1);
        Check.due("5 no line", desk.form(0), -1);
        Check.due("5 no address", desk.address(0), -1);
        Check.due("5 no label", desk.value(2), -1);
        Check.due("5 no long jump", desk.longs(), 0);
    }

    private static void dueLongForward(String what, SpanDesk desk) {
        Check.due(what + " at", desk.at(0), 64);
        Check.due(what + " at 2", desk.at(2), 128);
        Check.due(what + " end", desk.at(131), -1);
        Check.due(what + " last", desk.at(130), 7);
        Check.due(what + " address", desk.address(1), 3);
        Check.due(what + " line 2", desk.address(2), 131);
        Check.due(what + " line 3", desk.address(3), -1);
        Check.due(what + " form", desk.form(0), 2);
        Check.due(what + " longs", desk.longs(), 1);
        Check.due(what + " value", desk.value(2), 131);
        Check.due(what + " follow", Check.followed(desk, 0, true), "131");
        Check.due(what + " jumps", desk.jumps(0), true);
        Check.due(what + " trace", desk.trace(0, 0, 40), 131);
    }

    private static void atJumpBytes() {
        int[] opposite = {0, 37, 38, 39, 44, 33, 34, 35};
        for (int c = 0; c < 8; c++) {
            SpanDesk near = Check.desk(new int[][] {{LABEL, 0, 0}, {DATA, 1, 9}, {JUMP, 0, c}});
            Check.assembled(near);
            Check.dueBytes("6 short on " + c, near, 9, 32 + c, 253);
        }
        for (int c = 1; c < 8; c++) {
            SpanDesk far = Check.desk(new int[][] {{JUMP, 0, c}, {DATA, 200, 9}, {DATA, 57, 9}, {LABEL, 0, 0}, {DATA, 126, 9}, {JUMP, 0, c}});
            Check.due("6 long on " + c, Check.assembled(far), "390");
            Check.dueBytesFrom("6 long on " + c, far, 0, opposite[c], 3, 64, 1, 1, 9);
            Check.due("6 short behind on " + c, far.at(388), 32 + c);
            Check.due("6 its distance on " + c, far.at(389), 128);
        }
        SpanDesk back = Check.desk(new int[][] {{LABEL, 0, 0}, {DATA, 200, 9}, {DATA, 100, 9}, {JUMP, 0, 3}, {JUMP, 0, 0}});
        Check.due("6 backward", Check.assembled(back), "308");
        Check.dueBytesFrom("6 backward", back, 300, 39, 3, 64, 254, 207, 64, 254, 204, -1);
    }

    private static void atWordsAndData() {
        SpanDesk desk = Check.desk(new int[][] {
            {WORD, 1, 0}, {WORD, 1, -1000}, {WORD, 1, 1000}, {DATA, 2, 255}, {DATA, 1, 0}, {LABEL, 1, 0}, {WORD, 1, -9}, {WORD, 1, -10}
        });
        Check.due("6 words", Check.assembled(desk), "13");
        Check.dueBytes("6 words", desk, 0, 9, 252, 33, 3, 241, 255, 255, 0, 0, 0, 255, 255);
        Check.due("6 below", desk.at(-1), -1);
    }

    private static void address() {
        SpanDesk desk = sample();
        int[] starts = {0, 0, 2, 7, 157, 157, 159};
        for (int k = 0; k < starts.length; k++) {
            Check.due("7 line " + k, desk.address(k), starts[k]);
        }
        Check.due("7 below", desk.address(-1), -1);
        Check.due("7 behind", desk.address(7), -1);
    }

    private static void form() {
        SpanDesk desk = sample();
        int[] forms = {0, 0, 2, 0, 0, 1, 0};
        for (int k = 0; k < forms.length; k++) {
            Check.due("8 line " + k, desk.form(k), forms[k]);
        }
        Check.due("8 below", desk.form(-1), -1);
        Check.due("8 behind", desk.form(7), -1);
    }

    private static void longs() {
        SpanDesk desk = sample();
        Check.due("9 one", desk.longs(), 1);
        desk.insert(7, JUMP, 0, 0);
        Check.due("9 not yet", desk.longs(), 1);
        Check.assembled(desk);
        Check.due("9 two", desk.longs(), 2);
        desk.remove(2);
        Check.assembled(desk);
        Check.due("9 one again", desk.longs(), 1);
    }

    private static void value() {
        SpanDesk desk = sample();
        Check.due("10 the first", desk.value(0), 0);
        Check.due("10 the second", desk.value(15), 157);
        Check.due("10 not defined", desk.value(1), -1);
        Check.due("10 below", desk.value(-1), -1);
        Check.due("10 behind", desk.value(16), -1);
        desk.remove(0);
        desk.insert(0, LABEL, 1, 0);
        Check.due("10 a new label waits", desk.value(1), -1);
        Check.due("10 an old label stays", desk.value(0), 0);
        desk.remove(1);
        Check.due("10 assembled", Check.assembled(desk), "158");
        Check.due("10 the new label", desk.value(1), 0);
        Check.due("10 the old label", desk.value(0), -1);
    }

    /** LABEL 0, WORD 0, a long JUMP on 2, 150 bytes, LABEL 15, a short JUMP, one byte. */
    private static SpanDesk sample() {
        SpanDesk desk = Check.desk(new int[][] {
            {LABEL, 0, 0}, {WORD, 0, 0}, {JUMP, 15, 2}, {DATA, 150, 9}, {LABEL, 15, 0}, {JUMP, 15, 0}, {DATA, 1, 9}
        });
        Check.due("the sample", Check.assembled(desk), "160");
        return desk;
    }

    private static void follow() {
        SpanDesk desk = Check.bytes(9, 31, 32, 127, 47, 128, 48, 63, 64, 127, 255, 64, 128, 0, 65, 64, 255, 255, 44, 0);
        String[] taken = {"1", "2", "131", "4", "-122", "6", "7", "8", "32778", "10", "11", "-32754", "13", "14", "15", "17", "17", "18", "20", "20"};
        String[] behind = {"1", "2", "4", "4", "6", "6", "7", "8", "11", "10", "11", "14", "13", "14", "15", "18", "17", "18", "20", "20"};
        for (int k = 0; k < taken.length; k++) {
            Check.due("11 taken " + k, Check.followed(desk, k, true), taken[k]);
            Check.due("11 not taken " + k, Check.followed(desk, k, false), behind[k]);
        }
    }

    private static void followOutside() {
        SpanDesk desk = Check.bytes(9, 9, 64);
        Check.due("11 before", Check.followed(desk, -1, false), "IndexOutOfBoundsException");
        Check.due("11 one byte of three", Check.followed(desk, 2, false), "IndexOutOfBoundsException");
        Check.due("11 behind", Check.followed(desk, 3, false), "IndexOutOfBoundsException");
        SpanDesk two = Check.bytes(64, 9);
        Check.due("11 two bytes of three", Check.followed(two, 0, true), "IndexOutOfBoundsException");
        Check.due("11 the last byte", Check.followed(two, 1, true), "2");
        SpanDesk one = Check.bytes(47);
        Check.due("11 one byte of two", Check.followed(one, 0, false), "IndexOutOfBoundsException");
        SpanDesk whole = Check.bytes(9, 47, 0);
        Check.due("11 just whole", Check.followed(whole, 1, false), "3");
        SpanDesk far = Check.bytes(64, 0, 0);
        Check.due("11 just whole, long", Check.followed(far, 0, true), "3");
    }

    private static void jumps() {
        for (int code = 0; code < 256; code++) {
            SpanDesk desk = Check.bytes(code, 9, 9);
            Check.due("12 code " + code, desk.jumps(0), 32 <= code && code <= 47 || code == 64);
            SpanDesk cut = Check.bytes(9, code);
            Check.due("12 cut code " + code, cut.jumps(1), false);
        }
        SpanDesk desk = Check.bytes(64, 40, 64);
        Check.due("12 whole", desk.jumps(0), true);
        Check.due("12 inside another", desk.jumps(1), true);
        Check.due("12 cut", desk.jumps(2), false);
        Check.due("12 below", desk.jumps(-1), false);
        Check.due("12 behind", desk.jumps(3), false);
        Check.due("12 two of three", Check.bytes(9, 64, 9).jumps(1), false);
    }

    private static void traceBits() {
        SpanDesk desk = Check.bytes(9, 33, 2, 33, 250, 9, 33, 1, 9, 9, 9);
        Check.due("13 none", desk.trace(0, -1, 0), 0);
        Check.due("13 no jump ignores its bit", desk.trace(0, -1, 1), 1);
        Check.due("13 not taken", desk.trace(0, 1, 2), 3);
        Check.due("13 taken", desk.trace(0, 2, 2), 5);
        Check.due("13 the jump's own number counts", desk.trace(0, 2 + 8, 4), 9);
        Check.due("13 back", desk.trace(0, 4, 3), -1);
        Check.due("13 stops before the start", desk.trace(0, 4, 40), -1);
        Check.due("13 to the end", desk.trace(0, 0, 40), 11);
        SpanDesk loop = Check.bytes(33, 254, 9);
        Check.due("13 bit 31", loop.trace(0, Integer.MAX_VALUE, 31), 0);
        Check.due("13 bit 31 is 0", loop.trace(0, Integer.MAX_VALUE, 32), 2);
        Check.due("13 bit 0 comes again", loop.trace(0, -1, 40), 0);
        SpanDesk slow = Check.desk(new int[][] {{DATA, 32, 9}, {DATA, 1, 33}, {DATA, 1, 5}, {DATA, 20, 9}});
        Check.assembled(slow);
        Check.due("13 operation 32 has bit 0", slow.trace(0, 1, 33), 39);
        Check.due("13 operation 32 without bit 0", slow.trace(0, -2, 33), 34);
        desk = Check.desk(new int[][] {{DATA, 33, 9}, {DATA, 1, 33}, {DATA, 1, 5}, {DATA, 20, 9}});
        Check.assembled(desk);
        Check.due("13 operation 33 has bit 1", desk.trace(0, 2, 34), 40);
        Check.due("13 operation 33 without bit 1", desk.trace(0, -3, 34), 35);
    }

    private static void traceAlways() {
        Check.due("13 short always", Check.bytes(32, 3, 9, 9, 9, 9).trace(0, 0, 1), 5);
        Check.due("13 long always", Check.bytes(64, 0, 2, 9, 9, 9).trace(0, 0, 1), 5);
        for (int code = 33; code < 48; code++) {
            Check.due("13 not always " + code, Check.bytes(code, 3, 9, 9, 9, 9).trace(0, 0, 1), 2);
            Check.due("13 taken " + code, Check.bytes(code, 3, 9, 9, 9, 9).trace(0, 1, 1), 5);
        }
        SpanDesk far = Check.desk(new int[][] {{JUMP, 0, 4}, {DATA, 200, 9}, {LABEL, 0, 0}});
        Check.assembled(far);
        Check.due("13 a long jump that goes", far.trace(0, 0, 2), 205);
        Check.due("13 a long jump that does not go", far.trace(0, 1, 1), 5);
    }

    private static void traceEdges() {
        SpanDesk desk = Check.bytes(9, 9, 64, 0);
        Check.due("13 n below", desk.trace(0, 0, -1), -1);
        Check.due("13 n above", desk.trace(0, 0, 41), -1);
        Check.due("13 stops at a cut operation", desk.trace(0, 0, 40), 2);
        Check.due("13 from a cut operation", desk.trace(2, 0, 1), 2);
        Check.due("13 from behind", desk.trace(4, 0, 40), 4);
        Check.due("13 from far away", desk.trace(Integer.MAX_VALUE, -1, 40), Integer.MAX_VALUE);
        Check.due("13 from far below", desk.trace(Integer.MIN_VALUE, -1, 40), Integer.MIN_VALUE);
        SpanDesk fifty = Check.desk(new int[][] {{DATA, 50, 9}});
        Check.assembled(fifty);
        Check.due("13 forty", fifty.trace(3, 0, 40), 43);
    }

    /** No argument, in any state, may bring out an exception that the document does not name. */
    private static void wildArguments() {
        for (int a : WILD) {
            SpanDesk[] desks = {
                new SpanDesk(), sample(), Check.bytes(64, 255), Check.desk(new int[][] {{JUMP, 3, 0}})
            };
            for (SpanDesk desk : desks) {
                wildCalls(desk, a);
            }
        }
    }

    private static void wildCalls(SpanDesk desk, int a) {
        desk.at(a);
        desk.address(a);
        desk.form(a);
        desk.value(a);
        desk.jumps(a);
        Check.followed(desk, a, true);
        Check.followed(desk, a, false);
        for (int b : WILD) {
            desk.trace(a, b, b);
            desk.trace(a, b, 40);
            desk.insert(a, b, a, b);
            desk.insert(a, 3, b, 0);
        }
        desk.remove(a);
        Check.assembled(desk);
    }

    /** The calls that README.md shows, with the answers that it tells. */
    private static void readmeExample() {
        SpanDesk desk = new SpanDesk();
        Check.due("insert 0", desk.insert(0, 0, 1, 0), true);
        Check.due("insert 1", desk.insert(1, 1, 126, 9), true);
        Check.due("insert 2", desk.insert(2, 3, 1, 0), true);
        Check.due("assemble", Check.assembled(desk), "128");
        Check.due("form", desk.form(2), 1);
        Check.due("at", desk.at(127), 128);
        Check.due("follow", Check.followed(desk, 126, true), "0");
        Check.due("trace", desk.trace(126, 0, 3), 2);
        Check.due("insert one more", desk.insert(1, 1, 1, 9), true);
        Check.due("assemble again", Check.assembled(desk), "130");
        Check.due("form again", desk.form(3), 2);
        Check.due("address", desk.address(3), 127);
        Check.due("longs", desk.longs(), 1);
    }
}
