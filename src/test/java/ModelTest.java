import java.util.ArrayList;
import java.util.List;
import java.util.Random;

/**
 * Runs of calls, made by a fixed rule, on an object and on a plain model beside it. The model tries
 * every choice of forms and writes all bytes out; it shares nothing with the program.
 */
public final class ModelTest {
    private static final int RUNS = 1500;
    private static final int CALLS = 450;
    private static final int MOST_JUMPS = 9;

    private static int wrong = 0;

    private final Random random;
    private final int run;
    private final SpanDesk desk = new SpanDesk();
    private final List<int[]> program = new ArrayList<>();
    private List<int[]> source = new ArrayList<>();
    private int chosen = 0;
    private int[] bytes = new int[0];
    private int calls = 0;

    private ModelTest(int run) {
        this.run = run;
        this.random = new Random(run);
    }

    public static void main(String[] args) {
        int longSeen = 0;
        for (int run = 0; run < RUNS && wrong < 20; run++) {
            ModelTest test = new ModelTest(run);
            test.go();
            longSeen += test.chosen != 0 ? 1 : 0;
        }
        if (longSeen < RUNS / 10) {
            wrong++;
            System.out.println("only " + longSeen + " runs ended with long jumps");
        }
        System.out.println(wrong == 0 ? "the model agrees" : wrong + " answers are not the model's");
        if (wrong != 0) {
            System.exit(1);
        }
    }

    private void go() {
        boolean nearEdge = run % 2 == 0;
        while (calls < CALLS) {
            int what = random.nextInt(10);
            if (what < 5 || program.size() < 5) {
                insertLine(nearEdge);
            } else if (what < 7) {
                removeLine();
            } else {
                assemble();
                askSome();
            }
        }
        askAllBytes();
    }

    private void insertLine(boolean nearEdge) {
        int at = random.nextInt(program.size() + 1);
        int kind = random.nextInt(4);
        int[] line = {kind, random.nextInt(nearEdge ? 4 : 16), 0};
        if (kind == 0 && defines(program, line[1]) && random.nextInt(20) != 0) {
            return;
        }
        if (kind == 1) {
            line[1] = nearEdge && random.nextInt(3) != 0 ? 1 + random.nextInt(60) : 1 + random.nextInt(200);
            line[2] = random.nextBoolean() ? 32 + random.nextInt(33) : random.nextInt(256);
        } else if (kind == 2) {
            line[2] = random.nextInt(2001) - 1000;
        } else if (kind == 3) {
            line[2] = random.nextInt(8);
            if (countJumps(program) >= MOST_JUMPS) {
                return;
            }
        }
        // A named label is mostly defined first, so that most programs can be assembled.
        if (kind >= 2 && !defines(program, line[1]) && random.nextInt(30) != 0) {
            put(at, new int[] {0, line[1], 0});
        }
        put(at, line);
    }

    private void put(int at, int[] line) {
        boolean fits = program.size() < 50;
        due("insert", desk.insert(at, line[0], line[1], line[2]) ? 1 : 0, fits ? 1 : 0);
        if (fits) {
            program.add(at, line);
        }
        due("lines", desk.lines(), program.size());
        calls += 2;
    }

    private void removeLine() {
        int at = random.nextInt(program.size() + 1);
        if (at < program.size() && program.get(at)[0] == 0 && isNamed(program.get(at)[1]) && random.nextInt(10) != 0) {
            return;
        }
        due("remove", desk.remove(at) ? 1 : 0, at < program.size() ? 1 : 0);
        if (at < program.size()) {
            program.remove(at);
        }
        calls++;
    }

    private void assemble() {
        int want = modelAssemble();
        int got;
        try {
            got = desk.assemble();
        } catch (IllegalArgumentException e) {
            got = -1;
        } catch (IllegalStateException e) {
            got = -2;
        }
        due("assemble", got, want);
        calls++;
    }

    private int modelAssemble() {
        int[] defined = new int[16];
        for (int[] line : program) {
            defined[line[1] & 15] += line[0] == 0 ? 1 : 0;
        }
        for (int many : defined) {
            if (many > 1) {
                return -1;
            }
        }
        for (int[] line : program) {
            if (line[0] >= 2 && defined[line[1]] == 0) {
                return -2;
            }
        }
        source = new ArrayList<>(program);
        chosen = leastChoice();
        bytes = write();
        return bytes.length;
    }

    /** A choice is a set of bits, one for each jump in its order, 1 for long. */
    private int leastChoice() {
        int choices = 1 << countJumps(source);
        int best = choices - 1;
        for (int choice = 0; choice < choices; choice++) {
            if (Integer.bitCount(choice) < Integer.bitCount(best) && allReach(choice)) {
                best = choice;
            }
        }
        return best;
    }

    private boolean allReach(int choice) {
        int jump = 0;
        for (int k = 0; k < source.size(); k++) {
            int[] line = source.get(k);
            if (line[0] != 3) {
                continue;
            }
            int way = valueOf(line[1], choice) - addressOf(k, choice) - 2;
            if ((choice >> jump & 1) == 0 && (way < -128 || way > 127)) {
                return false;
            }
            jump++;
        }
        return true;
    }

    private int addressOf(int line, int choice) {
        int address = 0;
        int jump = 0;
        for (int k = 0; k < line; k++) {
            int[] before = source.get(k);
            switch (before[0]) {
                case 1 -> address += before[1];
                case 2 -> address += 2;
                case 3 -> address += (choice >> jump++ & 1) == 0 ? 2 : before[2] == 0 ? 3 : 5;
                default -> { }
            }
        }
        return address;
    }

    private int valueOf(int label, int choice) {
        for (int k = 0; k < source.size(); k++) {
            if (source.get(k)[0] == 0 && source.get(k)[1] == label) {
                return addressOf(k, choice);
            }
        }
        return -1;
    }

    private int[] write() {
        List<Integer> out = new ArrayList<>();
        for (int k = 0; k < source.size(); k++) {
            int[] line = source.get(k);
            int behind = addressOf(k + 1, chosen);
            if (line[0] == 1) {
                for (int n = 0; n < line[1]; n++) {
                    out.add(line[2]);
                }
            } else if (line[0] == 2) {
                writeWord(out, valueOf(line[1], chosen) + line[2]);
            } else if (line[0] == 3) {
                writeJump(out, line[2], valueOf(line[1], chosen) - behind, formOf(k) == 2);
            }
        }
        return out.stream().mapToInt(Integer::intValue).toArray();
    }

    private static void writeJump(List<Integer> out, int condition, int way, boolean isLong) {
        int[] opposite = {-1, 37, 38, 39, 44, 33, 34, 35};
        if (!isLong) {
            out.add(32 + condition);
            out.add(Math.floorMod(way, 256));
            return;
        }
        if (condition != 0) {
            out.add(opposite[condition]);
            out.add(3);
        }
        out.add(64);
        writeWord(out, way);
    }

    private static void writeWord(List<Integer> out, int number) {
        out.add(Math.floorMod(number, 65536) / 256);
        out.add(Math.floorMod(number, 256));
    }

    private int formOf(int line) {
        if (source.get(line)[0] != 3) {
            return 0;
        }
        return (chosen >> countJumps(source.subList(0, line)) & 1) == 1 ? 2 : 1;
    }

    private void askSome() {
        for (int n = 0; n < 6; n++) {
            int line = random.nextInt(54) - 2;
            boolean there = line >= 0 && line < source.size();
            due("address " + line, desk.address(line), there ? addressOf(line, chosen) : -1);
            due("form " + line, desk.form(line), there ? formOf(line) : -1);
            int label = random.nextInt(18) - 1;
            due("value " + label, desk.value(label), valueOf(label, chosen));
            int address = random.nextInt(bytes.length + 4) - 2;
            if (there && random.nextBoolean()) {
                address = addressOf(line, chosen);
            }
            due("at " + address, desk.at(address), address >= 0 && address < bytes.length ? bytes[address] : -1);
            askFollowing(address);
        }
        due("longs", desk.longs(), Integer.bitCount(chosen));
        calls += 43;
    }

    /** On new objects, since one object has too few calls for all bytes. */
    private void askAllBytes() {
        int step = 400;
        for (int from = 0; from < bytes.length; from += step) {
            SpanDesk other = new SpanDesk();
            for (int k = 0; k < source.size(); k++) {
                other.insert(k, source.get(k)[0], source.get(k)[1], source.get(k)[2]);
            }
            due("assemble anew", other.assemble(), bytes.length);
            for (int k = from; k < from + step && k < bytes.length; k++) {
                due("at " + k, other.at(k), bytes[k]);
            }
        }
    }

    private void askFollowing(int address) {
        int size = operationSize(address);
        boolean taken = random.nextBoolean();
        int got;
        try {
            got = desk.follow(address, taken);
        } catch (IndexOutOfBoundsException e) {
            got = Integer.MIN_VALUE;
        }
        due("follow " + address, got, size == 0 ? Integer.MIN_VALUE : next(address, size, taken));
        due("jumps " + address, desk.jumps(address) ? 1 : 0, size > 1 ? 1 : 0);
        int bits = random.nextInt();
        int n = random.nextInt(44) - 1;
        due("trace " + address + " " + bits + " " + n, desk.trace(address, bits, n), traced(address, bits, n));
    }

    private int operationSize(int address) {
        if (address < 0 || address >= bytes.length) {
            return 0;
        }
        int code = bytes[address];
        int size = code >= 32 && code < 48 ? 2 : code == 64 ? 3 : 1;
        return address + size <= bytes.length ? size : 0;
    }

    private int next(int address, int size, boolean taken) {
        int way = 0;
        if (taken && size == 2) {
            way = bytes[address + 1] < 128 ? bytes[address + 1] : bytes[address + 1] - 256;
        } else if (taken && size == 3) {
            int pair = bytes[address + 1] * 256 + bytes[address + 2];
            way = pair < 32768 ? pair : pair - 65536;
        }
        return address + size + way;
    }

    private int traced(int address, int bits, int n) {
        if (n < 0 || n > 40) {
            return -1;
        }
        int here = address;
        for (int k = 0; k < n && operationSize(here) != 0; k++) {
            boolean always = bytes[here] == 32 || bytes[here] == 64;
            boolean bit = (bits & (1 << (k % 32))) != 0;
            here = next(here, operationSize(here), always || bit);
        }
        return here;
    }

    private static boolean defines(List<int[]> lines, int label) {
        return lines.stream().anyMatch(line -> line[0] == 0 && line[1] == label);
    }

    private boolean isNamed(int label) {
        return program.stream().anyMatch(line -> line[0] >= 2 && line[1] == label);
    }

    private static int countJumps(List<int[]> lines) {
        return (int) lines.stream().filter(line -> line[0] == 3).count();
    }

    private void due(String what, int got, int want) {
        if (got != want) {
            wrong++;
            System.out.println("run " + run + ": " + what + " answered " + got + ", due is " + want);
        }
    }
}
