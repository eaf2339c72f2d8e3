/**
 * The boundary cases of assembling: Terms (FORMS, SIZES, ADDRESS, REACHES, THE FORMS, ASSEMBLING) and
 * promises 5 and 7 to 10. One method for each sentence; the sentence stands above it.
 */
public final class BoundaryFormsTest {
    private static final String TWICE = "IllegalArgumentException";
    private static final String UNDEFINED = "IllegalStateException";

    public static void main(String[] args) {
        sizesOfForms();
        sizesOfOtherLines();
        addressIsTheSumBefore();
        reachesForward();
        reachesBackward();
        reachesItself();
        fewestAreLong();
        oneByteMorePushesAll();
        longAlwaysPushesByOne();
        longOnConditionPushesByThree();
        longElsewhereDoesNotPush();
        everyRoundPushesOneMore();
        jumpsBackAndForthOverAll();
        longOnesAreShortAgain();
        emptyProgram();
        largestProgram();
        labelDefinedTwice();
        labelNotDefined();
        bothHold();
        throwForTwiceChangesNothing();
        throwForUndefinedChangesNothing();
        throwLeavesNothingAssembled();
        programAsItIsThen();
        whatWasMadeStays();
        doneAgainReplacesAll();
        addressOfNoLine();
        addressOfFirstAndLast();
        formOfNoLine();
        formOfEachKind();
        longsFromNoneToMost();
        longsOfThatProgram();
        valueOfNoLabel();
        valueOfFirstAndLast();
        valueNotDefinedThere();
        Check.end("all boundary cases of assembling hold");
    }

    /** "FORMS of a JUMP: short, two bytes; long, three bytes if c is 0, else five." */
    private static void sizesOfForms() {
        for (int c = 0; c < 8; c++) {
            int longSize = c == 0 ? 3 : 5;
            SpanDesk near = Check.made(2, Check.jump(0, c), Check.label(0));
            Check.due("short on " + c, near.value(0), 2);
            SpanDesk far = Check.made(longSize + 128, Check.jump(0, c), Check.data(128, 9), Check.label(0));
            Check.due("long on " + c, far.address(1), longSize);
        }
    }

    /** "SIZES of other lines: LABEL 0, DATA n, WORD 2." */
    private static void sizesOfOtherLines() {
        Check.made(0, Check.label(0));
        Check.made(1, Check.data(1, 9));
        Check.made(200, Check.data(200, 9));
        Check.made(2, Check.label(0), Check.word(0, 0));
        Check.made(2, Check.label(0), Check.word(0, -1000));
    }

    /** "The ADDRESS of a line is the sum of the sizes of all lines before it". */
    private static void addressIsTheSumBefore() {
        SpanDesk desk = Check.made(345,
            Check.label(0), Check.data(1, 9), Check.word(1, 0), Check.jump(1, 0), Check.jump(1, 7), Check.data(200, 9),
            Check.label(1), Check.jump(1, 0), Check.label(2), Check.jump(0, 3), Check.data(127, 9));
        int[] addresses = {0, 0, 1, 3, 6, 11, 211, 211, 213, 213, 218};
        for (int k = 0; k < addresses.length; k++) {
            Check.due("line " + k, desk.address(k), addresses[k]);
        }
    }

    /** "REACHES if the value of its label less the address behind it is -128 .. 127": 127 and 128. */
    private static void reachesForward() {
        for (int c = 0; c < 8; c++) {
            Check.due("126 on " + c, formOver(c, 126, false), 1);
            Check.due("127 on " + c, formOver(c, 127, false), 1);
            Check.due("128 on " + c, formOver(c, 128, false), 2);
            Check.due("129 on " + c, formOver(c, 129, false), 2);
        }
    }

    /** "REACHES if the value of its label less the address behind it is -128 .. 127": -128 and -129. */
    private static void reachesBackward() {
        for (int c = 0; c < 8; c++) {
            Check.due("-127 on " + c, formOver(c, 125, true), 1);
            Check.due("-128 on " + c, formOver(c, 126, true), 1);
            Check.due("-129 on " + c, formOver(c, 127, true), 2);
            Check.due("-130 on " + c, formOver(c, 128, true), 2);
        }
    }

    private static int formOver(int condition, int between, boolean back) {
        int[] data = Check.data(between, 9);
        int[] jump = Check.jump(4, condition);
        SpanDesk desk = back ? Check.desk(Check.label(4), data, jump) : Check.desk(jump, data, Check.label(4));
        Check.assembled(desk);
        return desk.form(back ? 2 : 0);
    }

    /** "REACHES ...": a jump to itself and one to the address behind it. */
    private static void reachesItself() {
        SpanDesk desk = Check.made(4, Check.label(0), Check.jump(0, 0), Check.jump(1, 5), Check.label(1));
        Check.due("to itself", desk.form(1), 1);
        Check.due("behind it", desk.form(2), 1);
        Check.dueBytes("distances", desk, 32, 254, 37, 0);
    }

    /** "as few jumps as can be are long": two jumps over each other stay short if both can. */
    private static void fewestAreLong() {
        SpanDesk desk = Check.made(128, Check.label(0), Check.jump(1, 1), Check.data(124, 9), Check.jump(0, 1), Check.label(1));
        Check.due("forward", desk.form(1), 1);
        Check.due("backward", desk.form(3), 1);
        Check.due("longs", desk.longs(), 0);
    }

    /** "those for which all short jumps reach": one that has grown takes others out of reach. */
    private static void oneByteMorePushesAll() {
        SpanDesk desk = Check.made(135, Check.label(0), Check.jump(1, 1), Check.data(125, 9), Check.jump(0, 1), Check.label(1));
        Check.due("backward", desk.form(3), 2);
        Check.due("forward, that reached before", desk.form(1), 2);
        Check.due("longs", desk.longs(), 2);
    }

    /** "long, three bytes if c is 0": a jump over it has one byte less. */
    private static void longAlwaysPushesByOne() {
        dueOverLong(0, 124, 1);
        dueOverLong(0, 125, 2);
    }

    /** "else five": a jump over it has three bytes less. */
    private static void longOnConditionPushesByThree() {
        for (int c = 1; c < 8; c++) {
            dueOverLong(c, 122, 1);
            dueOverLong(c, 123, 2);
        }
    }

    /** A jump over a jump on c that is long for its own sake, once forward and once backward. */
    private static void dueOverLong(int c, int between, int want) {
        SpanDesk forward = Check.desk(
            Check.jump(0, 1), Check.jump(1, c), Check.data(between, 9), Check.label(0), Check.data(130, 9), Check.label(1));
        Check.assembled(forward);
        Check.due("inner on " + c, forward.form(1), 2);
        Check.due("outer over " + between, forward.form(0), want);
        SpanDesk backward = Check.desk(
            Check.label(1), Check.data(130, 9), Check.label(0), Check.data(between - 1, 9), Check.jump(1, c), Check.jump(0, 1));
        Check.assembled(backward);
        Check.due("inner back on " + c, backward.form(4), 2);
        Check.due("outer back over " + between, backward.form(5), want);
    }

    /** "any jump that is long in it is long in every choice": none is long that need not be. */
    private static void longElsewhereDoesNotPush() {
        SpanDesk desk = Check.made(130 + 5 + 2 + 127 + 2 + 5 + 126,
            Check.label(0), Check.data(130, 9), Check.jump(0, 2), Check.jump(1, 2), Check.data(127, 9), Check.label(1),
            Check.jump(1, 3), Check.jump(0, 3), Check.data(126, 9));
        int[] forms = {0, 0, 2, 1, 0, 0, 1, 2, 0};
        for (int k = 0; k < forms.length; k++) {
            Check.due("line " + k, desk.form(k), forms[k]);
        }
        Check.due("longs", desk.longs(), 2);
    }

    /** "those for which all short jumps reach": the last of sixteen pushes the others, one by one. */
    private static void everyRoundPushesOneMore() {
        SpanDesk desk = new SpanDesk();
        for (int k = 0; k < 16; k++) {
            Check.append(desk, Check.jump(k, 1 + k % 7), Check.data(62 + k % 2, 9));
            if (k > 0) {
                Check.append(desk, Check.label(k - 1));
            }
        }
        Check.append(desk, Check.data(64, 9), Check.label(15));
        Check.due("all short", Check.assembled(desk), "1096");
        Check.due("none long", desk.longs(), 0);
        desk.insert(48, 1, 1, 9);
        Check.due("all long", Check.assembled(desk), "1145");
        Check.due("sixteen long", desk.longs(), 16);
        Check.due("the first label", desk.value(0), 5 + 62 + 5 + 63);
    }

    /** "those for which all short jumps reach": forty-seven jumps, each pushed only by the one before. */
    private static void jumpsBackAndForthOverAll() {
        SpanDesk desk = Check.desk(Check.label(1));
        for (int k = 0; k < 23; k++) {
            Check.append(desk, Check.jump(0, k % 2 == 0 ? 1 : 0));
        }
        Check.append(desk, Check.data(34, 9));
        for (int k = 0; k < 24; k++) {
            Check.append(desk, Check.jump(1, k % 2 == 0 ? 7 : 0));
        }
        Check.append(desk, Check.label(0));
        Check.due("all short", Check.assembled(desk), "128");
        Check.due("none long", desk.longs(), 0);
        desk.remove(24);
        desk.insert(24, 1, 35, 9);
        Check.due("all long", Check.assembled(desk), "224");
        Check.due("all of them", desk.longs(), 47);
        Check.due("the last label", desk.value(0), 224);
    }

    /** "as few jumps as can be are long": those that were long before, too, once they reach. */
    private static void longOnesAreShortAgain() {
        SpanDesk desk = Check.made(135, Check.label(0), Check.jump(1, 1), Check.data(125, 9), Check.jump(0, 1), Check.label(1));
        Check.due("long", desk.longs(), 2);
        desk.remove(2);
        desk.insert(2, 1, 124, 9);
        Check.due("bytes", Check.assembled(desk), "128");
        Check.due("short", desk.longs(), 0);
        Check.due("forward", desk.form(1), 1);
        Check.due("backward", desk.form(3), 1);
    }

    /** "how many bytes": none of an empty program. */
    private static void emptyProgram() {
        SpanDesk desk = new SpanDesk();
        Check.due("new", Check.assembled(desk), "0");
        Check.due("again", Check.assembled(desk), "0");
        Check.append(desk, Check.data(3, 3));
        Check.due("with a line", Check.assembled(desk), "3");
        desk.remove(0);
        Check.due("empty again", Check.assembled(desk), "0");
        Check.due("no byte", desk.at(0), -1);
    }

    /** "how many bytes": ten thousand at most. */
    private static void largestProgram() {
        SpanDesk desk = new SpanDesk();
        for (int k = 0; k < 50; k++) {
            Check.append(desk, Check.data(200, 255 - k));
        }
        Check.due("bytes", Check.assembled(desk), "10000");
        Check.due("first", desk.at(0), 255);
        Check.due("last", desk.at(9999), 206);
        Check.due("behind", desk.at(10000), -1);
        Check.due("last line", desk.address(49), 9800);
    }

    /** "IllegalArgumentException if a label is defined twice". */
    private static void labelDefinedTwice() {
        for (int label = 0; label < 16; label++) {
            SpanDesk desk = Check.desk(Check.label(label), Check.data(3, 3), Check.label(label));
            Check.due("label " + label, Check.assembled(desk), TWICE);
            desk.remove(2);
            Check.due("once, label " + label, Check.assembled(desk), "3");
        }
        Check.due("side by side", Check.assembled(Check.desk(Check.label(1), Check.label(1))), TWICE);
        Check.due("three times", Check.assembled(Check.desk(Check.label(1), Check.label(1), Check.label(1))), TWICE);
        Check.due("and named", Check.assembled(Check.desk(Check.label(1), Check.jump(1, 0), Check.label(1))), TWICE);
        Check.due("data is no label", Check.assembled(Check.desk(Check.data(1, 0), Check.data(1, 0), Check.label(1))), "2");
        int[][] all = new int[16][];
        for (int label = 0; label < 16; label++) {
            all[label] = Check.label(label);
        }
        Check.due("each once", Check.assembled(Check.desk(all)), "0");
    }

    /** "IllegalStateException if a label that a WORD or JUMP names is not defined." */
    private static void labelNotDefined() {
        for (int label = 0; label < 16; label++) {
            int[] other = Check.label((label + 1) % 16);
            SpanDesk word = Check.desk(other, Check.word(label, 0));
            Check.due("WORD " + label, Check.assembled(word), UNDEFINED);
            Check.append(word, Check.label(label));
            Check.due("WORD " + label + " defined behind it", Check.assembled(word), "2");
            SpanDesk jump = Check.desk(other, Check.jump(label, 0));
            Check.due("JUMP " + label, Check.assembled(jump), UNDEFINED);
            Check.put(jump, 0, Check.label(label));
            Check.due("JUMP " + label + " defined before it", Check.assembled(jump), "2");
        }
        SpanDesk gone = Check.made(2, Check.label(3), Check.word(3, 0));
        gone.remove(0);
        Check.due("its label went", Check.assembled(gone), UNDEFINED);
        Check.due("the last line alone", Check.assembled(Check.desk(Check.label(0), Check.word(0, 0), Check.jump(1, 0))), UNDEFINED);
        Check.due("DATA and LABEL name none", Check.assembled(Check.desk(Check.data(7, 7), Check.label(6))), "7");
    }

    /** "(The one named first, if both hold.)" */
    private static void bothHold() {
        int[][] named = {Check.word(1, 0), Check.jump(1, 0)};
        for (int[] line : named) {
            Check.due("undefined first", Check.assembled(Check.desk(line, Check.label(2), Check.label(2))), TWICE);
            Check.due("undefined between", Check.assembled(Check.desk(Check.label(2), line, Check.label(2))), TWICE);
            Check.due("undefined last", Check.assembled(Check.desk(Check.label(0), Check.label(0), line)), TWICE);
        }
    }

    /** "What throws changes nothing.": a label defined twice. */
    private static void throwForTwiceChangesNothing() {
        SpanDesk desk = sample();
        Check.append(desk, Check.label(2), Check.data(9, 9));
        Check.due("throws", Check.assembled(desk), TWICE);
        dueSample(desk);
        Check.due("lines", desk.lines(), 5);
        desk.remove(3);
        Check.due("the program is as it was", Check.assembled(desk), "140");
    }

    /** "What throws changes nothing.": a label that is not defined. */
    private static void throwForUndefinedChangesNothing() {
        SpanDesk desk = sample();
        Check.put(desk, 0, Check.word(7, 0));
        Check.due("throws", Check.assembled(desk), UNDEFINED);
        dueSample(desk);
        Check.due("lines", desk.lines(), 4);
        Check.append(desk, Check.label(7));
        Check.due("the program is as it was", Check.assembled(desk), "133");
    }

    /** "What throws changes nothing.": on an object that has nothing assembled yet. */
    private static void throwLeavesNothingAssembled() {
        SpanDesk desk = Check.desk(Check.label(3), Check.data(4, 4), Check.jump(5, 0));
        Check.due("throws", Check.assembled(desk), UNDEFINED);
        Check.append(desk, Check.label(5), Check.label(5));
        Check.due("throws otherwise", Check.assembled(desk), TWICE);
        Check.due("at", desk.at(0), -1);
        Check.due("address", desk.address(0), -1);
        Check.due("form", desk.form(2), -1);
        Check.due("longs", desk.longs(), 0);
        Check.due("value", desk.value(3), -1);
        Check.due("value twice", desk.value(5), -1);
        Check.due("follow", Check.followed(desk, 0, false), "IndexOutOfBoundsException");
        Check.due("jumps", desk.jumps(4), false);
        Check.due("trace", desk.trace(0, 0, 3), 0);
    }

    /** "ASSEMBLING takes the program as it is then". */
    private static void programAsItIsThen() {
        SpanDesk desk = Check.desk(Check.data(1, 1), Check.data(1, 2));
        desk.remove(0);
        desk.insert(1, 1, 2, 3);
        Check.due("bytes", Check.assembled(desk), "3");
        Check.dueBytes("then", desk, 2, 3, 3);
        desk.insert(0, 1, 1, 4);
        Check.due("bytes again", Check.assembled(desk), "4");
        Check.dueBytes("now", desk, 4, 2, 3, 3);
    }

    /** "what it made stays until it is done again." */
    private static void whatWasMadeStays() {
        SpanDesk desk = sample();
        Check.put(desk, 0, Check.data(200, 1));
        dueSample(desk);
        Check.append(desk, Check.label(3), Check.jump(3, 1));
        dueSample(desk);
        for (int k = 0; k < 6; k++) {
            Check.due("one goes", desk.remove(0), true);
        }
        dueSample(desk);
        Check.append(desk, Check.label(2), Check.data(1, 1));
        dueSample(desk);
    }

    /** "until it is done again.": nothing of what was made before is left. */
    private static void doneAgainReplacesAll() {
        SpanDesk desk = sample();
        desk.remove(2);
        desk.remove(1);
        desk.remove(0);
        Check.append(desk, Check.data(2, 8));
        Check.due("bytes", Check.assembled(desk), "2");
        Check.dueBytes("new bytes", desk, 8, 8);
        Check.due("no byte 130", desk.at(130), -1);
        Check.due("no line 1", desk.address(1), -1);
        Check.due("no form 1", desk.form(1), -1);
        Check.due("no jump at line 0", desk.form(0), 0);
        Check.due("no long", desk.longs(), 0);
        Check.due("no label", desk.value(2), -1);
        Check.due("no operation 3", desk.jumps(3), false);
    }

    /** "The address of line k ...; NONE if it has none." */
    private static void addressOfNoLine() {
        SpanDesk desk = sample();
        Check.due("-1", desk.address(-1), -1);
        Check.due("3", desk.address(3), -1);
        for (int k : Check.WILD) {
            Check.due("line " + k, desk.address(k), -1);
        }
        Check.append(desk, Check.data(1, 1));
        Check.due("a line that came later", desk.address(3), -1);
        desk.remove(0);
        desk.remove(0);
        Check.due("a line that went later", desk.address(2), 131);
        Check.due("nothing assembled", Check.desk(Check.data(1, 1)).address(0), -1);
        Check.due("nothing in it", Check.made(0).address(0), -1);
    }

    /** "The address of line k": of line 0, and of line 49. */
    private static void addressOfFirstAndLast() {
        SpanDesk desk = new SpanDesk();
        for (int k = 0; k < 49; k++) {
            Check.append(desk, Check.data(200, k));
        }
        Check.append(desk, Check.label(15));
        Check.due("bytes", Check.assembled(desk), "9800");
        Check.due("line 0", desk.address(0), 0);
        Check.due("line 1", desk.address(1), 200);
        Check.due("line 49", desk.address(49), 9800);
        Check.due("line 50", desk.address(50), -1);
    }

    /** "NONE if there is none." (form) */
    private static void formOfNoLine() {
        SpanDesk desk = sample();
        Check.due("-1", desk.form(-1), -1);
        Check.due("3", desk.form(3), -1);
        for (int k : Check.WILD) {
            Check.due("line " + k, desk.form(k), -1);
        }
        Check.append(desk, Check.jump(2, 1));
        Check.due("a line that came later", desk.form(3), -1);
        Check.due("nothing assembled", Check.desk(Check.data(1, 1)).form(0), -1);
        Check.due("nothing in it", Check.made(0).form(0), -1);
        int[][] most = new int[50][];
        most[0] = Check.label(0);
        for (int k = 1; k < 50; k++) {
            most[k] = Check.jump(0, 0);
        }
        SpanDesk full = Check.desk(most);
        Check.assembled(full);
        Check.due("line 49", full.form(49), 1);
        Check.due("line 50", full.form(50), -1);
    }

    /** "1 if it is a short JUMP, 2 if a long one, else 0". */
    private static void formOfEachKind() {
        SpanDesk desk = Check.made(143,
            Check.label(0), Check.data(128, 9), Check.word(0, 1), Check.jump(0, 0), Check.jump(0, 6), Check.label(1),
            Check.jump(1, 0), Check.jump(1, 6), Check.data(1, 9));
        int[] forms = {0, 0, 0, 2, 2, 0, 1, 1, 0};
        for (int k = 0; k < forms.length; k++) {
            Check.due("line " + k, desk.form(k), forms[k]);
        }
    }

    /** "How many long jumps that program has.": none, and forty-eight. */
    private static void longsFromNoneToMost() {
        Check.due("nothing assembled", new SpanDesk().longs(), 0);
        Check.due("an empty program", Check.made(0).longs(), 0);
        Check.due("no jumps", Check.made(3, Check.data(3, 3)).longs(), 0);
        Check.due("short ones alone", Check.made(4, Check.label(0), Check.jump(0, 0), Check.jump(0, 1)).longs(), 0);
        SpanDesk desk = Check.desk(Check.label(0), Check.data(200, 9));
        for (int k = 0; k < 48; k++) {
            Check.append(desk, Check.jump(0, k % 8));
        }
        Check.due("bytes", Check.assembled(desk), "" + (200 + 6 * 3 + 42 * 5));
        Check.due("all long", desk.longs(), 48);
    }

    /** "that program": the one that was assembled latest. */
    private static void longsOfThatProgram() {
        SpanDesk desk = sample();
        desk.remove(0);
        Check.due("one went", desk.longs(), 1);
        Check.put(desk, 0, Check.jump(2, 1));
        Check.put(desk, 0, Check.jump(2, 1));
        Check.due("two came", desk.longs(), 1);
        Check.due("assembled", Check.assembled(desk), "138");
        Check.due("two", desk.longs(), 2);
    }

    /** "Labels are 0 .. 15", "NONE if it is not defined there." */
    private static void valueOfNoLabel() {
        SpanDesk desk = sample();
        Check.due("-1", desk.value(-1), -1);
        Check.due("16", desk.value(16), -1);
        for (int label : Check.WILD) {
            Check.due("label " + label, desk.value(label), -1);
        }
    }

    /** "The value of a label": label 0 at the start, label 15 behind all. */
    private static void valueOfFirstAndLast() {
        SpanDesk desk = Check.made(7, Check.label(0), Check.data(7, 7), Check.label(15));
        Check.due("label 0", desk.value(0), 0);
        Check.due("label 15", desk.value(15), 7);
        for (int label = 1; label < 15; label++) {
            Check.due("label " + label, desk.value(label), -1);
        }
    }

    /** "in that program; NONE if it is not defined there." */
    private static void valueNotDefinedThere() {
        SpanDesk desk = sample();
        Check.put(desk, 0, Check.label(9));
        Check.due("came later", desk.value(9), -1);
        Check.due("assembled", Check.assembled(desk), "131");
        Check.due("came", desk.value(9), 0);
        desk.remove(0);
        Check.due("went later", desk.value(9), 0);
        Check.due("assembled again", Check.assembled(desk), "131");
        Check.due("went", desk.value(9), -1);
        Check.due("stayed", desk.value(2), 131);
    }

    /** A long jump always, 128 bytes, and its label. */
    private static SpanDesk sample() {
        return Check.made(131, Check.jump(2, 0), Check.data(128, 7), Check.label(2));
    }

    private static void dueSample(SpanDesk desk) {
        Check.dueBytesFrom("sample", desk, 0, 64, 0, 128, 7);
        Check.due("sample last byte", desk.at(130), 7);
        Check.due("sample end", desk.at(131), -1);
        Check.due("sample line 0", desk.address(0), 0);
        Check.due("sample line 1", desk.address(1), 3);
        Check.due("sample line 2", desk.address(2), 131);
        Check.due("sample line 3", desk.address(3), -1);
        Check.due("sample form", desk.form(0), 2);
        Check.due("sample form 1", desk.form(1), 0);
        Check.due("sample form 3", desk.form(3), -1);
        Check.due("sample longs", desk.longs(), 1);
        Check.due("sample value", desk.value(2), 131);
        Check.due("sample value 7", desk.value(7), -1);
        Check.due("sample value 3", desk.value(3), -1);
        Check.due("sample follow", Check.followed(desk, 0, true), "131");
        Check.due("sample jumps", desk.jumps(0), true);
        Check.due("sample trace", desk.trace(0, 0, 40), 131);
    }
}
