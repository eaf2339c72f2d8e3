import java.util.Random;

/**
 * THE FORMS of programs with up to forty-nine jumps, too many for ModelTest to try every choice. The
 * fewest long jumps are found here one at a time, from the last line on; and choices that come from
 * the other side, with all jumps long at first, must have every one of them.
 */
public final class ManyJumpsTest {
    private static final int RUNS = 4000;
    private static final int LINES = 50;

    private final Random random;
    private final int run;
    private final int[][] lines = new int[LINES][];

    private ManyJumpsTest(int run) {
        this.run = run;
        this.random = new Random(run);
    }

    public static void main(String[] args) {
        int mixed = 0;
        for (int run = 0; run < RUNS; run++) {
            mixed += new ManyJumpsTest(run).go() ? 1 : 0;
        }
        // Programs whose jumps are all of one form would tell little.
        Check.due("programs with both forms, " + mixed, mixed > RUNS / 2, true);
        Check.end("the forms of many jumps hold");
    }

    /** Whether the program had jumps of both forms. */
    private boolean go() {
        fill();
        boolean[] fewest = fewestLong();
        SpanDesk desk = Check.desk(lines);
        Check.due("bytes of run " + run, Check.assembled(desk), "" + addressOf(LINES, fewest));
        dueForms(desk, fewest);
        for (int k = 0; k < 4; k++) {
            dueWithin(fewest, someChoice());
        }
        int many = count(fewest);
        return many > 0 && many < countJumps();
    }

    /** Labels at places of their own, some data, and jumps everywhere else. */
    private void fill() {
        int labels = 1 + random.nextInt(16);
        for (int label = 0; label < labels; label++) {
            lines[freeLine()] = Check.label(label);
        }
        int bytes = random.nextInt(30 + 25 * labels);
        for (int k = random.nextInt(15); k >= 0 && bytes > 0; k--) {
            int many = 1 + random.nextInt(Math.min(bytes, 200));
            lines[freeLine()] = Check.data(many, 9);
            bytes -= many;
        }
        for (int k = 0; k < LINES; k++) {
            if (lines[k] == null) {
                lines[k] = Check.jump(random.nextInt(labels), random.nextInt(8));
            }
        }
    }

    private int freeLine() {
        int line = random.nextInt(LINES);
        while (lines[line] != null) {
            line = (line + 1) % LINES;
        }
        return line;
    }

    private boolean[] fewestLong() {
        boolean[] choice = new boolean[LINES];
        for (int line = shortWithoutReach(choice); line >= 0; line = shortWithoutReach(choice)) {
            choice[line] = true;
        }
        return choice;
    }

    /** A choice in which all short jumps reach and no single long one could be short. */
    private boolean[] someChoice() {
        boolean[] choice = new boolean[LINES];
        for (int k = 0; k < LINES; k++) {
            choice[k] = lines[k][0] == 3;
        }
        int from = random.nextInt(LINES);
        for (int k = 0; k < 2 * LINES; k++) {
            int line = (from + 7 * k) % LINES;
            boolean before = choice[line];
            choice[line] = false;
            if (shortWithoutReach(choice) >= 0) {
                choice[line] = before;
            }
        }
        return choice;
    }

    /** The last short jump that does not reach, or -1. */
    private int shortWithoutReach(boolean[] choice) {
        for (int k = LINES - 1; k >= 0; k--) {
            if (lines[k][0] != 3 || choice[k]) {
                continue;
            }
            int way = addressOf(labelLine(lines[k][1]), choice) - addressOf(k + 1, choice);
            if (way < -128 || way > 127) {
                return k;
            }
        }
        return -1;
    }

    private int labelLine(int label) {
        int line = 0;
        while (lines[line][0] != 0 || lines[line][1] != label) {
            line++;
        }
        return line;
    }

    private int addressOf(int line, boolean[] choice) {
        int address = 0;
        for (int k = 0; k < line; k++) {
            if (lines[k][0] == 1) {
                address += lines[k][1];
            } else if (lines[k][0] == 3) {
                address += !choice[k] ? 2 : lines[k][2] == 0 ? 3 : 5;
            }
        }
        return address;
    }

    private void dueForms(SpanDesk desk, boolean[] fewest) {
        for (int k = 0; k < LINES; k++) {
            int form = lines[k][0] != 3 ? 0 : fewest[k] ? 2 : 1;
            Check.due("form " + k + " of run " + run, desk.form(k), form);
            Check.due("address " + k + " of run " + run, desk.address(k), addressOf(k, fewest));
            if (form == 1) {
                int target = addressOf(labelLine(lines[k][1]), fewest);
                Check.due("jump " + k + " of run " + run, Check.followed(desk, desk.address(k), true), "" + target);
            }
        }
        Check.due("longs of run " + run, desk.longs(), count(fewest));
    }

    /** "any jump that is long in it is long in every choice for which all short ones reach". */
    private void dueWithin(boolean[] fewest, boolean[] choice) {
        for (int k = 0; k < LINES; k++) {
            Check.due("jump " + k + " long in every choice, run " + run, fewest[k] && !choice[k], false);
        }
    }

    private int countJumps() {
        int many = 0;
        for (int[] line : lines) {
            many += line[0] == 3 ? 1 : 0;
        }
        return many;
    }

    private static int count(boolean[] choice) {
        int many = 0;
        for (boolean isLong : choice) {
            many += isLong ? 1 : 0;
        }
        return many;
    }
}
