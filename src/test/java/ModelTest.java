import java.util.Random;

/**
 * Runs of calls, each the same every time, on the program and on the model: all answers and all that
 * the queries tell must be the same, whatever the arguments. A run stays within the 512 calls of an object.
 */
public final class ModelTest {
    private static final int RUNS = 2400;
    private static final int CALLS = 512;
    private static final int CALLS_TO_TELL = 9 + 6 * 12 + 5;
    private static final int MOST_CALLS_OF_A_STEP = 40;
    private static final int STEPS_BETWEEN_TELLING = 20;
    private static final int[] WILD = {Integer.MIN_VALUE, Integer.MIN_VALUE + 1, -65536, -101, -5, -4, -3, -2, -1,
        6, 7, 8, 9, 10, 16, 31, 32, 63, 64, 80, 127, 255, 256, 257, 65536, Integer.MAX_VALUE - 1, Integer.MAX_VALUE};
    private static final String ITEMS = "01ab????@@";

    private final Random random;
    private final ScanChain x = new ScanChain();
    private final Model model = new Model();
    private String call = "";
    /** The calls of the program in this step. */
    private int made;

    private ModelTest(int seed) {
        random = new Random(seed);
    }

    public static void main(String[] args) {
        Due due = new Due("ModelTest");
        for (int seed = 0; seed < RUNS; seed++) {
            due.promise("run " + seed);
            new ModelTest(seed).calls(due);
        }
        due.end();
    }

    private void calls(Due due) {
        int left = CALLS - CALLS_TO_TELL;
        for (int step = 1; left >= MOST_CALLS_OF_A_STEP; step++) {
            made = 1;
            String[] pair = oneCall().split(" ");
            due.same("step " + step + ", " + call, pair[0], pair[1]);
            left -= made;
            if (step % STEPS_BETWEEN_TELLING == 0 && left >= CALLS_TO_TELL) {
                tell(due, step);
                left -= CALLS_TO_TELL;
            }
        }
        tell(due, CALLS);
    }

    private void tell(Due due, int step) {
        due.same("what is told behind step " + step + ", " + call, told(), toldByModel());
    }

    private String oneCall() {
        switch (random.nextInt(32)) {
            case 0: case 1: return add();
            case 2: return random.nextInt(3) == 0 ? take() : add();
            case 3: case 4: return setPins();
            case 5: return breakChip();
            case 6: case 7: case 8: case 9: case 10: case 11: return clock();
            case 12: case 13: return move();
            case 14: return identify();
            case 15: case 16: case 17: return load();
            case 18: case 19: case 20: return exchange();
            case 21: case 22: return write();
            case 23: return clearText();
            case 24: case 25: return run();
            case 26: return undo();
            case 27: return save();
            case 28: return restore();
            default: return query();
        }
    }

    /** A number from 0 to most, at times the one above, and at times any number. */
    private int some(int most) {
        switch (random.nextInt(50)) {
            case 0: return most + 1;
            case 1: return WILD[random.nextInt(WILD.length)];
            default: return random.nextInt(most + 1);
        }
    }

    private int place() {
        return random.nextInt(12) == 0 ? some(6) : random.nextInt(Math.max(1, model.count(0)));
    }

    private int instruction() {
        return random.nextInt(3) > 0 ? random.nextInt(4) : some(63);
    }

    private String add() {
        int codeLength = 2 + some(4);
        int identity = random.nextInt(3) == 0 ? 0 : random.nextInt(12) == 0 ? some(255) : 1 + 2 * random.nextInt(127);
        int cells = 1 + some(7);
        call = "add(" + codeLength + ", " + identity + ", " + cells + ")";
        return x.add(codeLength, identity, cells) + " " + model.add(codeLength, identity, cells);
    }

    private String take() {
        int chip = place();
        call = "take(" + chip + ")";
        return x.take(chip) + " " + model.take(chip);
    }

    private String setPins() {
        int chip = place();
        int pins = some(255);
        call = "setPins(" + chip + ", " + pins + ")";
        return x.setPins(chip, pins) + " " + model.setPins(chip, pins);
    }

    private String breakChip() {
        int chip = place();
        boolean isBroken = random.nextInt(3) == 0;
        call = "breakChip(" + chip + ", " + isBroken + ")";
        return x.breakChip(chip, isBroken) + " " + model.breakChip(chip, isBroken);
    }

    private String clock() {
        int mode = some(1);
        int input = some(1);
        call = "clock(" + mode + ", " + input + ")";
        return x.clock(mode, input) + " " + model.clock(mode, input);
    }

    private String move() {
        int state = some(15);
        call = "move(" + state + ")";
        return x.move(state) + " " + model.move(state);
    }

    private String identify() {
        call = "identify()";
        return x.identify() + " " + model.identify();
    }

    private String load() {
        int chip = place();
        int instruction = instruction();
        call = "load(" + chip + ", " + instruction + ")";
        return x.load(chip, instruction) + " " + model.load(chip, instruction);
    }

    private String exchange() {
        int chip = place();
        int data = some(255);
        call = "exchange(" + chip + ", " + data + ")";
        return x.exchange(chip, data) + " " + model.exchange(chip, data);
    }

    private String write() {
        int characters = random.nextInt(20);
        made = 0;
        StringBuilder answers = new StringBuilder();
        StringBuilder due = new StringBuilder();
        for (int i = 0; i < characters; i++) {
            int character = random.nextInt(200) == 0 ? some(130) : ITEMS.charAt(random.nextInt(ITEMS.length()));
            made++;
            answers.append(x.append(character)).append(',');
            due.append(model.append(character)).append(',');
            if (character == '@' && random.nextInt(100) > 0) {
                int hex = "0123456789abcdef".charAt(random.nextInt(16));
                made++;
                answers.append(x.append(hex)).append(',');
                due.append(model.append(hex)).append(',');
            }
        }
        call = "append, " + characters + " items";
        return "=" + answers + " =" + due;
    }

    private String clearText() {
        call = "clearText()";
        return x.clearText() + " " + model.clearText();
    }

    private String run() {
        call = "run()";
        return x.run() + " " + model.run();
    }

    private String undo() {
        call = "undo()";
        return x.undo() + " " + model.undo();
    }

    private String save() {
        call = "save()";
        return x.save() + " " + model.save();
    }

    private String restore() {
        call = "restore()";
        return x.restore() + " " + model.restore();
    }

    private String query() {
        int a = some(16);
        int b = some(255);
        call = "queries with " + a + " and " + b;
        made = 9;
        return x.chip(a, b) + "," + x.chip(0, a) + "," + x.count(a) + "," + x.found(a) + "," + x.found(b) + ","
                + x.distance(a, b % 17) + "," + x.distance(b, a) + "," + x.peek(a) + "," + x.ifExchanged(a, b) + " "
                + model.chip(a, b) + "," + model.chip(0, a) + "," + model.count(a) + "," + model.found(a) + "," + model.found(b) + ","
                + model.distance(a, b % 17) + "," + model.distance(b, a) + "," + model.peek(a) + "," + model.ifExchanged(a, b);
    }

    private String told() {
        StringBuilder told = new StringBuilder();
        for (int what = 0; what <= 8; what++) {
            told.append(x.count(what)).append(' ');
        }
        for (int chip = 0; chip < 6; chip++) {
            for (int what = 0; what <= 9; what++) {
                told.append(x.chip(chip, what)).append(' ');
            }
            told.append(x.ifExchanged(chip, 0xB6)).append(' ').append(x.found(chip)).append("; ");
        }
        told.append(x.peek(0)).append(x.peek(1)).append(' ').append(x.fault());
        return told.append(' ').append(x.ifIdentified()).append(' ').append(x.bypassed()).toString();
    }

    private String toldByModel() {
        StringBuilder told = new StringBuilder();
        for (int what = 0; what <= 8; what++) {
            told.append(model.count(what)).append(' ');
        }
        for (int chip = 0; chip < 6; chip++) {
            for (int what = 0; what <= 9; what++) {
                told.append(model.chip(chip, what)).append(' ');
            }
            told.append(model.ifExchanged(chip, 0xB6)).append(' ').append(model.found(chip)).append("; ");
        }
        told.append(model.peek(0)).append(model.peek(1)).append(' ').append(model.fault());
        return told.append(' ').append(model.ifIdentified()).append(' ').append(model.bypassed()).toString();
    }
}
