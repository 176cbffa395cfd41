/** Promises 6 clock, 7 move, 21 distance and 22 peek: the controller and the work of its states. */
public final class ClockTest {
    private static final Due due = new Due("ClockTest");
    private static final int[][] NEXT = {
        {1, 0}, {1, 2}, {3, 9}, {4, 5}, {4, 5}, {6, 8}, {6, 7}, {4, 8},
        {1, 2}, {10, 0}, {11, 12}, {11, 12}, {13, 15}, {13, 14}, {11, 15}, {1, 2}};

    public static void main(String[] args) {
        badClocks();
        transitions();
        outputWithoutChips();
        bypassDelays();
        identityIsShifted();
        cellsAreShiftedAndUpdated();
        sampleDoesNotDrive();
        codesAreShifted();
        shortCodes();
        brokenChip();
        reset();
        moves();
        ways();
        peek();
        due.end();
    }

    private static ScanChain at(int state) {
        ScanChain x = new ScanChain();
        x.move(state);
        return x;
    }

    private static void badClocks() {
        due.promise("6 clock");
        ScanChain x = new ScanChain();
        String before = View.of(x);
        int[][] bad = {{2, 0}, {-1, 0}, {0, 2}, {0, -1}, {Integer.MIN_VALUE, 0}, {1, Integer.MAX_VALUE}, {2, 2}};
        for (int[] b : bad) {
            due.same("clock(" + b[0] + ", " + b[1] + ")", x.clock(b[0], b[1]), -2);
        }
        due.same("a refused clock", View.of(x), before);
        x.clock(1, 0);
        due.same("clock is recorded", x.count(7), 1);
        due.same("clock is counted", x.count(3), 1);
    }

    private static void transitions() {
        due.promise("6 clock");
        for (int state = 0; state < 16; state++) {
            for (int mode = 0; mode < 2; mode++) {
                ScanChain x = at(state);
                due.same("the state ahead", x.count(2), state);
                int clocks = x.count(3);
                int output = x.clock(mode, 1);
                due.same("clock(" + mode + ", 1) from " + state, x.count(2), NEXT[state][mode]);
                due.same("the output in " + state, output, 1);
                due.same("the number of clocks", x.count(3), clocks + 1);
            }
        }
    }

    private static void outputWithoutChips() {
        due.promise("6 clock");
        for (int state = 0; state < 16; state++) {
            int want = state == 4 || state == 11 ? 0 : 1;
            due.same("clock(0, 0) in " + state, at(state).clock(0, 0), want);
            due.same("clock(1, 0) in " + state, at(state).clock(1, 0), want);
        }
    }

    private static void bypassDelays() {
        due.promise("6 clock");
        ScanChain x = new ScanChain();
        x.add(3, 0, 4);
        x.add(3, 0, 4);
        x.move(4);
        int[] inputs = {1, 1, 0, 1, 0, 0};
        int[] outputs = {0, 0, 1, 1, 0, 1};
        for (int i = 0; i < inputs.length; i++) {
            due.same("output " + i + " behind two bypasses", x.clock(0, inputs[i]), outputs[i]);
        }
        due.same("data of chip 0", x.chip(0, 8), 0);
        due.same("data of chip 1", x.chip(1, 8), 0);
        x.clock(0, 1);
        due.same("data of chip 0", x.chip(0, 8), 1);
        x.move(4);
        due.same("no clock is needed", x.chip(0, 8), 1);
        x.move(3);
        x.clock(1, 1);
        due.same("the bypass captures 0", x.chip(0, 8), 0);
    }

    private static void identityIsShifted() {
        due.promise("6 clock");
        ScanChain x = new ScanChain();
        x.add(2, 0xA5, 3);
        x.move(3);
        due.same("the data ahead of the capture", x.chip(0, 8), 0);
        x.clock(0, 0);
        due.same("the identity is captured", x.chip(0, 8), 0xA5);
        for (int bit = 0; bit < 8; bit++) {
            due.same("bit " + bit, x.clock(0, bit % 2), 0xA5 >> bit & 1);
        }
        due.same("the inputs stand in the register", x.chip(0, 8), 0xAA);
        x.clock(1, 1);
        due.same("the clock that leaves shifts, too", x.chip(0, 8), 0xD5);
        x.clock(0, 1);
        x.clock(1, 1);
        due.same("exit and pause do nothing", x.chip(0, 8), 0xD5);
        x.clock(1, 1);
        x.clock(0, 1);
        due.same("an update without the instruction 0 does nothing", x.chip(0, 4), 0);
    }

    private static void cellsAreShiftedAndUpdated() {
        due.promise("6 clock");
        ScanChain x = new ScanChain();
        x.add(2, 0, 3);
        x.load(0, 0);
        x.setPins(0, 6);
        x.move(4);
        due.same("the pins are captured", x.chip(0, 8), 6);
        due.same("bit 0", x.clock(0, 1), 0);
        due.same("bit 1", x.clock(0, 0), 1);
        due.same("bit 2", x.clock(1, 1), 1);
        due.same("the register", x.chip(0, 8), 5);
        due.same("the outputs ahead of the update", x.chip(0, 4), 0);
        x.clock(1, 0);
        due.same("the outputs at the update's beginning", x.chip(0, 4), 0);
        x.clock(1, 0);
        due.same("the outputs behind the update", x.chip(0, 4), 5);
        due.same("the state", x.count(2), 2);
    }

    private static void sampleDoesNotDrive() {
        due.promise("6 clock");
        ScanChain x = new ScanChain();
        x.add(4, 7, 5);
        x.load(0, 2);
        x.setPins(0, 19);
        due.same("sample reads the pins", x.exchange(0, 31), 19);
        due.same("sample keeps the outputs", x.chip(0, 4), 0);
        due.same("the data register holds the new data", x.chip(0, 8), 31);
    }

    private static void codesAreShifted() {
        due.promise("6 clock");
        ScanChain x = new ScanChain();
        x.add(3, 5, 2);
        x.add(4, 0, 2);
        x.move(10);
        due.same("the code ahead of the capture", x.chip(0, 7), 0);
        x.clock(0, 0);
        due.same("the captured code of chip 0", x.chip(0, 7), 1);
        due.same("the captured code of chip 1", x.chip(1, 7), 1);
        int[] inputs = {1, 0, 1, 0, 1, 1, 0};
        int[] outputs = {1, 0, 0, 0, 1, 0, 0};
        for (int i = 0; i < 7; i++) {
            due.same("output " + i, x.clock(i == 6 ? 1 : 0, inputs[i]), outputs[i]);
        }
        due.same("the code of chip 1", x.chip(1, 7), 5);
        due.same("the code of chip 0", x.chip(0, 7), 3);
        due.same("the instruction waits for the update", x.chip(0, 6), 1);
        x.move(15);
        due.same("the instruction waits for the update's clock", x.chip(0, 6), 1);
        x.clock(0, 0);
        due.same("the instruction of chip 0", x.chip(0, 6), 3);
        due.same("the instruction of chip 1", x.chip(1, 6), 5);
        due.same("the code register stays", x.chip(1, 7), 5);
        due.same("the instruction 3 selects the bypass", x.chip(0, 9), 1);
    }

    private static void shortCodes() {
        due.promise("6 clock");
        for (int instruction = 0; instruction < 4; instruction++) {
            ScanChain x = new ScanChain();
            x.add(2, 9, 5);
            x.add(2, 0, 6);
            int[] withIdentity = {5, 8, 5, 1};
            int[] without = {6, 1, 6, 1};
            due.same("load(0, " + instruction + ")", x.load(0, instruction), withIdentity[instruction]);
            due.same("load(1, " + instruction + ")", x.load(1, instruction), without[instruction]);
        }
    }

    private static void brokenChip() {
        due.promise("6 clock");
        ScanChain x = new ScanChain();
        x.add(2, 0, 1);
        x.add(2, 0, 1);
        x.breakChip(0, true);
        x.move(4);
        due.same("the chip behind a broken one is whole", x.clock(0, 0), 0);
        due.same("a broken chip gives 1", x.clock(0, 0), 1);
        due.same("again", x.clock(0, 0), 1);
        due.same("the broken chip is shifted all the same", x.chip(0, 8), 0);
        x.clock(0, 1);
        due.same("the broken chip takes the input", x.chip(0, 8), 1);
        x.breakChip(0, false);
        x.breakChip(1, true);
        x.clock(0, 0);
        due.same("the last chip takes what the one before gave", x.chip(1, 8), 1);
        x.clock(0, 0);
        due.same("a broken last chip", x.clock(0, 0), 1);
        due.same("its register", x.chip(1, 8), 0);
        due.same("peek at a broken last chip", x.peek(0), 1);
        x.move(11);
        due.same("the code of the broken chip ahead", x.chip(1, 7), 1);
        x.clock(0, 0);
        due.same("its code is shifted", x.chip(1, 7), 2);
        due.same("its code output is 1", x.clock(0, 0), 1);
        due.same("its code output is 1", x.peek(0), 1);
        due.same("its code", x.chip(1, 7), 1);
    }

    private static void reset() {
        due.promise("6 clock");
        ScanChain x = new ScanChain();
        x.add(3, 9, 4);
        x.add(3, 0, 4);
        x.load(0, 0);
        x.exchange(0, 15);
        x.load(1, 2);
        x.load(0, 2);
        x.setPins(0, 5);
        x.move(4);
        x.move(0);
        due.same("to come to the reset is not yet its work", x.chip(0, 6), 2);
        due.same("the data ahead of the work", x.chip(0, 8) == 0 ? 1 : 0, 0);
        x.clock(1, 0);
        due.same("the first instruction with an identity", x.chip(0, 6), 1);
        due.same("the first instruction without one", x.chip(1, 6), 7);
        due.same("the data register", x.chip(0, 8), 0);
        due.same("the outputs stay", x.chip(0, 4), 15);
        due.same("the pins stay", x.chip(0, 3), 5);
        due.same("the code register stays", x.chip(0, 7), 2);
    }

    private static void moves() {
        due.promise("7 move");
        ScanChain x = new ScanChain();
        String before = View.of(x);
        for (int state : new int[] {-1, 16, 17, Integer.MIN_VALUE, Integer.MAX_VALUE}) {
            due.same("move(" + state + ")", x.move(state), -2);
        }
        due.same("a refused move", View.of(x), before);
        due.same("move(0) from 0", x.move(0), 0);
        due.same("a move without clocks is recorded", x.count(7), 1);
        due.same("its clocks", x.count(3), 0);
        for (int from = 0; from < 16; from++) {
            for (int to = 0; to < 16; to++) {
                movedAndClocked(from, to);
            }
        }
    }

    /** A move must leave what the shortest sequence leaves that comes first in lexicographic order. */
    private static void movedAndClocked(int from, int to) {
        ScanChain moved = loaded(from);
        ScanChain clocked = loaded(from);
        int[] modes = firstShortest(from, to);
        due.same("move(" + to + ") from " + from, moved.move(to), modes.length);
        due.same("the state", moved.count(2), to);
        for (int mode : modes) {
            clocked.clock(mode, 1);
        }
        due.same("moved from " + from + " to " + to, View.system(moved), View.system(clocked));
    }

    private static ScanChain loaded(int state) {
        ScanChain x = new ScanChain();
        x.add(3, 41, 5);
        x.add(2, 0, 3);
        x.setPins(0, 22);
        x.setPins(1, 5);
        x.load(1, 0);
        x.load(0, 2);
        x.move(11);
        x.clock(0, 0);
        x.clock(0, 1);
        x.move(4);
        x.clock(0, 0);
        x.move(state);
        return x;
    }

    private static int[] firstShortest(int from, int to) {
        for (int length = 0; ; length++) {
            for (int sequence = 0; sequence < 1 << length; sequence++) {
                int[] modes = new int[length];
                int state = from;
                for (int i = 0; i < length; i++) {
                    modes[i] = sequence >> length - 1 - i & 1;
                    state = NEXT[state][modes[i]];
                }
                if (state == to) {
                    return modes;
                }
            }
        }
    }

    private static void ways() {
        due.promise("21 distance");
        ScanChain x = new ScanChain();
        x.move(7);
        String before = View.of(x);
        for (int from = 0; from < 16; from++) {
            for (int to = 0; to < 16; to++) {
                due.same("distance(" + from + ", " + to + ")", x.distance(from, to), firstShortest(from, to).length);
            }
        }
        int[][] bad = {{-1, 0}, {16, 0}, {0, -1}, {0, 16}, {Integer.MIN_VALUE, 0}, {0, Integer.MAX_VALUE}, {32, 32}};
        for (int[] b : bad) {
            due.same("distance(" + b[0] + ", " + b[1] + ")", x.distance(b[0], b[1]), -2);
        }
        due.same("distance changes nothing", View.of(x), before);
    }

    private static void peek() {
        due.promise("22 peek");
        for (int state = 0; state < 16; state++) {
            ScanChain x = at(state);
            due.same("peek(1) in " + state, x.peek(1), 1);
            due.same("peek(0) in " + state, x.peek(0), state == 4 || state == 11 ? 0 : 1);
            due.same("peek(2)", x.peek(2), -2);
            due.same("peek(-1)", x.peek(-1), -2);
            due.same("peek(MIN)", x.peek(Integer.MIN_VALUE), -2);
            due.same("the state stays", x.count(2), state);
        }
        ScanChain x = new ScanChain();
        x.add(2, 0x4D, 1);
        x.move(4);
        for (int bit = 0; bit < 8; bit++) {
            due.same("peek(0) at bit " + bit, x.peek(0), 0x4D >> bit & 1);
            due.same("peek(1) at bit " + bit, x.peek(1), 0x4D >> bit & 1);
            x.clock(0, 0);
        }
        x.move(11);
        due.same("peek at a code", x.peek(0), 1);
        x.clock(0, 1);
        due.same("peek at a code", x.peek(1), 0);
    }
}
