/**
 * The boundary cases that the document's sentences on clocks name, a test for each sentence: the terms
 * on states, on a clock and on moves, and promises 6, 7, 21 and 22.
 */
public final class BoundaryClocksTest {
    private static final Due due = new Due("BoundaryClocksTest");
    private static final int[] OUTSIDE = {Integer.MIN_VALUE, Integer.MIN_VALUE + 1, -65536, -16, -1, 32, 65536, Integer.MAX_VALUE - 1, Integer.MAX_VALUE};
    private static final int[] NEXT_0 = {1, 1, 3, 4, 4, 6, 6, 4, 1, 10, 11, 11, 13, 13, 11, 1};
    private static final int[] NEXT_1 = {0, 2, 9, 5, 5, 8, 7, 8, 2, 0, 12, 12, 15, 14, 15, 2};

    public static void main(String[] args) {
        firstState();
        nextStates();
        statesThatStay();
        fiveClocksToTheReset();
        modeAndInput();
        clockBadValues();
        outputOfTheOtherStates();
        workIsDoneAheadOfTheNextState();
        outputOfAChip();
        outputOfTheLastChip();
        outputWithoutChips();
        workOfTheReset();
        captureOfData();
        captureOfCodes();
        shiftOfOneBit();
        shiftOfAllBits();
        shiftTakesWhatTheOneBeforeGave();
        shiftBehindABrokenChip();
        updateOfData();
        updateOfCodes();
        workWithoutChips();
        noWorkOfOtherStates();
        noClockInTheState();
        movesHaveTheInputOne();
        movesAreTheShortest();
        moveRange();
        distanceRange();
        distanceOfNothing();
        distanceIsTheMovesClocks();
        peekRange();
        peekIsTheNextOutput();
        due.end();
    }

    private static void firstState() {
        due.sentence("The controller of all chips together has one state (0 at first).");
        ScanChain x = new ScanChain();
        due.same("the state at first", x.count(2), 0);
        x.add(2, 0, 1);
        due.same("the state with a chip", x.count(2), 0);
        x.move(7);
        x.add(2, 0, 1);
        due.same("the state does not begin anew with another chip", x.count(2), 7);
        x.take(0);
        x.take(0);
        due.same("the state stays without chips", x.count(2), 7);
    }

    private static void nextStates() {
        due.sentence("The states, their names, and the next state with the mode 0 and with the mode 1 are");
        for (int state = 0; state < 16; state++) {
            for (int mode = 0; mode <= 1; mode++) {
                for (int input = 0; input <= 1; input++) {
                    ScanChain x = new ScanChain();
                    x.move(state);
                    x.clock(mode, input);
                    due.same("clock(" + mode + ", " + input + ") in " + state, x.count(2), mode == 0 ? NEXT_0[state] : NEXT_1[state]);
                }
            }
        }
    }

    private static void statesThatStay() {
        due.sentence("0 reset: 1, 0. 1 idle: 1, 2. ... 4 shift data: 4, 5. ... 6 pause data: 6, 7. ... 11 shift code: 11, 12. ... 13 pause code: 13, 14.");
        int[] states = {0, 1, 4, 6, 11, 13};
        for (int state : states) {
            ScanChain x = new ScanChain();
            x.move(state);
            Chains.clocks(x, 100, state == 0 ? 1 : 0, 0);
            due.same("the state behind 100 clocks in " + state, x.count(2), state);
        }
    }

    private static void fiveClocksToTheReset() {
        due.sentence("0 reset: 1, 0. ... 9 select code: 10, 0.");
        int[] wants = {0, 3, 2, 5, 5, 4, 5, 4, 3, 1, 5, 5, 4, 5, 4, 3};
        for (int state = 0; state < 16; state++) {
            ScanChain x = new ScanChain();
            x.move(state);
            int clocks = 0;
            while (clocks < 9 && x.count(2) != 0) {
                x.clock(1, 1);
                clocks++;
            }
            due.same("the clocks with the mode 1 from " + state + " to 0", clocks, wants[state]);
        }
    }

    private static void modeAndInput() {
        due.sentence("A clock has a mode and an input, each 0 or 1; it has an output.");
        for (int mode = 0; mode <= 1; mode++) {
            for (int input = 0; input <= 1; input++) {
                ScanChain x = new ScanChain();
                x.move(4);
                due.same("clock(" + mode + ", " + input + ")", x.clock(mode, input), input);
                due.same("the state behind it", x.count(2), mode == 0 ? 4 : 5);
                due.same("the clocks so far", x.count(3), 5);
            }
        }
    }

    private static void clockBadValues() {
        due.sentence("6: BAD_VALUE if an argument is neither 0 nor 1");
        for (int state = 0; state < 16; state++) {
            ScanChain x = Chains.of(2, 0, 1);
            x.move(state);
            String before = View.of(x);
            due.same("clock(2, 0)", x.clock(2, 0), -2);
            due.same("clock(0, 2)", x.clock(0, 2), -2);
            due.same("clock(1, 3)", x.clock(1, 3), -2);
            due.same("clock(2, 2)", x.clock(2, 2), -2);
            for (int bad : OUTSIDE) {
                due.same("clock(" + bad + ", 1)", x.clock(bad, 1), -2);
                due.same("clock(1, " + bad + ")", x.clock(1, bad), -2);
            }
            due.same("behind the refused ones in " + state, View.of(x), before);
        }
    }

    private static void outputOfTheOtherStates() {
        due.sentence("in the states 4 and 11 the output of the chain, in all other states 1");
        for (int state = 0; state < 16; state++) {
            ScanChain x = Chains.of(3, 0, 1);
            x.move(11);
            Chains.clocks(x, 3, 0, 0);
            x.move(state);
            if (state == 11) {
                x.clock(0, 0);
            }
            due.same("the data register's lowest bit", x.chip(0, 8) & 1, 0);
            due.same("the output with an input of 0 in " + state, x.clock(0, 0), state == 4 || state == 11 ? 0 : 1);
        }
    }

    private static void workIsDoneAheadOfTheNextState() {
        due.sentence("Then the work of the state (in which the controller is ahead of the clock) is done; then the state becomes the next one by the mode.");
        ScanChain x = Chains.of(2, 253, 1);
        x.move(3);
        due.same("to come to the state 3 does not capture", x.chip(0, 8), 0);
        x.clock(0, 0);
        due.same("the clock from 3 to 4 captures and does not shift", x.chip(0, 8), 253);
        x.clock(1, 0);
        due.same("the clock from 4 to 5 shifts", x.chip(0, 8), 126);
        x.clock(0, 0);
        x.clock(1, 0);
        x.clock(0, 0);
        due.same("the clocks from 5 to 4 do not shift", x.chip(0, 8), 126);
        x.move(10);
        due.same("to come to the state 10 does not capture", x.chip(0, 7), 0);
        x.clock(1, 0);
        due.same("the clock from 10 to 12 captures and does not shift", x.chip(0, 7), 1);
        x.clock(1, 0);
        due.same("to come to the state 15 gives no instruction", View.chip(x, 0), "2 253 1 0 0 0 1 1 191 8");
        x.clock(1, 0);
        due.same("the clock from 15 to 2 gives the instruction", View.chip(x, 0), "2 253 1 0 0 0 1 1 0 8");
    }

    private static void outputOfAChip() {
        due.sentence("The output of a chip is the lowest bit of its shifted register if it is whole, and 1 if it is broken.");
        for (int pins = 0; pins < 256; pins += 51) {
            ScanChain x = Chains.of(2, 0, 8);
            x.load(0, 2);
            x.setPins(0, pins);
            x.move(4);
            due.same("a whole chip with the pins " + pins, x.peek(0), pins & 1);
            x.breakChip(0, true);
            due.same("a broken chip with the pins " + pins, x.peek(0), 1);
            due.same("its clock", x.clock(0, 0), 1);
            x.breakChip(0, false);
            due.same("a chip that is whole again", x.clock(0, 0), pins >> 1 & 1);
        }
        ScanChain y = Chains.of(2, 0, 8);
        y.move(11);
        y.clock(0, 0);
        due.same("a whole chip's code", y.peek(1), 0);
        y.breakChip(0, true);
        due.same("a broken chip's code", y.peek(0), 1);
    }

    private static void outputOfTheLastChip() {
        due.sentence("The output of the chain is the output of the chip in the last place");
        for (int chips = 1; chips <= 6; chips++) {
            ScanChain x = Chains.same(chips, 2, 0, 1);
            x.move(4);
            x.breakChip(chips - 1, true);
            due.same("the last of " + chips + " chips is broken", x.clock(0, 0), 1);
            x.breakChip(chips - 1, false);
            for (int place = 0; place < chips - 1; place++) {
                x.breakChip(place, true);
            }
            due.same("all others of " + chips + " chips are broken", x.peek(1), 0);
        }
    }

    private static void outputWithoutChips() {
        due.sentence("without chips it is the input of the clock");
        ScanChain x = new ScanChain();
        for (int state : new int[] {4, 11}) {
            x.move(state);
            for (int input : new int[] {0, 1, 1, 0}) {
                due.same("clock(0, " + input + ") in " + state, x.clock(0, input), input);
            }
            due.same("clock(1, 0) in " + state, x.clock(1, 0), 0);
        }
        x.add(2, 0, 1);
        x.take(0);
        x.move(4);
        due.same("without chips again", x.clock(0, 1), 1);
        due.same("without chips again", x.clock(0, 0), 0);
    }

    private static void workOfTheReset() {
        due.sentence("- 0: each chip is given its first instruction.");
        ScanChain x = new ScanChain();
        for (int place = 0; place < 6; place++) {
            x.add(2 + place % 5, place % 2 == 0 ? 0 : 253, 8);
        }
        int[] firsts = {3, 1, 15, 1, 63, 1};
        for (int place = 0; place < 6; place++) {
            x.load(place, 0);
            x.exchange(place, 255);
            x.move(0);
            due.same("to come to the state 0 gives no instruction", x.chip(place, 6), 0);
            x.clock(0, 1);
            for (int other = 0; other < 6; other++) {
                due.same("the first instruction of chip " + other, x.chip(other, 6), firsts[other]);
                due.same("its data", x.chip(other, 8), 0);
            }
            due.same("the outputs stay", x.chip(place, 4), 255);
        }
    }

    private static void captureOfData() {
        due.sentence("- 3: the data register of each chip becomes 0 if it is the bypass, its identity if it is the identity, and its pins if it is the cells.");
        int[] identities = {0, 1, 253};
        for (int identity : identities) {
            for (int pins = 0; pins <= 255; pins += 255) {
                for (int instruction = 0; instruction <= 3; instruction++) {
                    ScanChain x = Chains.of(2, identity, 8);
                    x.setPins(0, pins);
                    x.load(0, instruction);
                    x.move(4);
                    Chains.clocks(x, 8, 0, 1);
                    due.same("the register full of ones", x.chip(0, 8), Chains.allOnes(x.chip(0, 9)));
                    x.move(3);
                    x.clock(1, 0);
                    int bypassOrIdentity = instruction == 1 ? identity : 0;
                    due.same("captured with the instruction " + instruction, x.chip(0, 8), instruction % 2 == 0 ? pins : bypassOrIdentity);
                }
            }
        }
    }

    private static void captureOfCodes() {
        due.sentence("- 10: the code register of each chip becomes 1.");
        for (int input = 0; input <= 1; input++) {
            ScanChain x = Chains.of(2, 0, 1, 3, 9, 1, 4, 0, 1, 5, 9, 1, 6, 0, 1, 6, 253, 8);
            x.breakChip(5, true);
            x.move(11);
            Chains.clocks(x, 30, 0, input);
            x.move(10);
            x.clock(1, input);
            for (int place = 0; place < 6; place++) {
                due.same("chip(" + place + ", 7)", x.chip(place, 7), 1);
            }
        }
    }

    private static void shiftOfOneBit() {
        due.sentence("each loses its lowest bit, and each of its other bits becomes the next lower one; the highest bit becomes the input");
        ScanChain bypass = Chains.of(2, 0, 8);
        ScanChain cell = Chains.of(2, 0, 1);
        cell.load(0, 0);
        for (ScanChain x : new ScanChain[] {bypass, cell}) {
            x.move(4);
            for (int input : new int[] {1, 1, 0, 1, 0, 0}) {
                x.clock(0, input);
                due.same("the only bit", x.chip(0, 8), input);
            }
        }
    }

    private static void shiftOfAllBits() {
        due.sentence("- 4 and 11: the shifted registers of all chips are shifted at once");
        for (int bits = 1; bits <= 8; bits++) {
            ScanChain x = Chains.of(3, 0, bits, 3, 0, bits);
            x.load(0, 0);
            x.move(3);
            x.clock(0, 0);
            for (int clock = 0; clock < bits; clock++) {
                x.clock(0, clock == 0 ? 1 : 0);
                due.same("the 1 in " + bits + " bits", x.chip(0, 8), 1 << bits - 1 - clock);
            }
            due.same("the bypass behind it", x.chip(1, 8), 0);
            x.clock(0, 0);
            due.same("the 1 has left", x.chip(0, 8), 0);
            due.same("it is in the bypass behind", x.chip(1, 8), 1);
        }
        for (int length = 2; length <= 6; length++) {
            ScanChain x = Chains.of(length, 0, 1, length, 9, 1);
            x.move(11);
            for (int clock = 0; clock <= length; clock++) {
                due.same("the 1 of the code of " + length + " bits", x.clock(0, 0), clock == 0 || clock == length ? 1 : 0);
                due.same("the code next to the output", x.chip(1, 7), clock == length ? 0 : 1 << length - 1 - clock);
            }
        }
    }

    private static void shiftTakesWhatTheOneBeforeGave() {
        due.sentence("and the output of the chip in the place before (as it was ahead of the clock) in the others");
        ScanChain x = Chains.same(6, 2, 0, 1);
        x.move(4);
        x.clock(0, 1);
        x.clock(0, 0);
        x.clock(0, 1);
        int[] wants = {1, 0, 1, 0, 0, 0};
        for (int place = 0; place < 6; place++) {
            due.same("the bypass " + place, x.chip(place, 8), wants[place]);
        }
        ScanChain y = Chains.same(6, 2, 0, 1);
        y.move(11);
        y.clock(0, 0);
        for (int place = 0; place < 6; place++) {
            due.same("the code " + place, y.chip(place, 7), place == 0 ? 0 : 2);
        }
    }

    private static void shiftBehindABrokenChip() {
        due.sentence("the highest bit becomes the input of the clock in the chip in the place 0, and the output of the chip in the place before ... in the others");
        for (int broken = 0; broken < 6; broken++) {
            ScanChain x = Chains.same(6, 2, 0, 1);
            x.breakChip(broken, true);
            x.move(4);
            x.clock(0, 0);
            for (int place = 0; place < 6; place++) {
                due.same("the bypass " + place + " with the broken chip " + broken, x.chip(place, 8), place == broken + 1 ? 1 : 0);
            }
            x.move(11);
            x.clock(0, 0);
            x.clock(0, 0);
            for (int place = 0; place < 6; place++) {
                int want = place == broken + 1 ? 3 : place == 0 ? 0 : 1;
                due.same("the code " + place + " with the broken chip " + broken, x.chip(place, 7), want);
            }
        }
    }

    private static void updateOfData() {
        due.sentence("- 8: of each chip with the instruction 0 the outputs become its data register.");
        for (int cells = 1; cells <= 8; cells++) {
            for (int instruction = 0; instruction <= 3; instruction++) {
                ScanChain x = Chains.of(2, 9, cells, 2, 0, cells);
                x.load(0, instruction);
                x.move(4);
                Chains.clocks(x, 9, 0, 1);
                x.move(8);
                due.same("to come to the state 8 changes no outputs", x.chip(0, 4), 0);
                x.clock(0, 0);
                due.same("the outputs with the instruction " + instruction, x.chip(0, 4), instruction == 0 ? Chains.allOnes(cells) : 0);
                due.same("the outputs of the bypass behind", x.chip(1, 4), 0);
            }
        }
        ScanChain y = Chains.of(2, 9, 8);
        y.load(0, 0);
        y.exchange(0, 255);
        y.move(5);
        due.same("to capture keeps the outputs", y.chip(0, 4), 255);
        y.clock(1, 1);
        y.clock(1, 1);
        due.same("captured pins of 0 are driven", y.chip(0, 4), 0);
    }

    private static void updateOfCodes() {
        due.sentence("- 15: each chip is given the instruction that is the number in its code register.");
        for (int code = 0; code < 64; code++) {
            ScanChain x = Chains.of(6, 9, 1);
            x.move(11);
            for (int bit = 0; bit < 6; bit++) {
                x.clock(bit == 5 ? 1 : 0, code >> bit & 1);
            }
            x.clock(1, 0);
            due.same("the instruction ahead of the update", x.chip(0, 6), 1);
            x.clock(0, 0);
            due.same("the instruction", x.chip(0, 6), code);
            due.same("the code stays", x.chip(0, 7), code);
        }
        ScanChain y = Chains.of(2, 0, 1, 6, 253, 8);
        y.move(10);
        y.clock(1, 1);
        y.clock(1, 1);
        y.clock(1, 1);
        due.same("captured codes are instructions", y.chip(0, 6) * 10 + y.chip(1, 6), 11);
    }

    private static void workWithoutChips() {
        due.sentence("The work of the states is");
        for (int state = 0; state < 16; state++) {
            for (int mode = 0; mode <= 1; mode++) {
                ScanChain x = new ScanChain();
                x.move(state);
                int clocks = x.count(3);
                due.same("the output in " + state + " without chips", x.clock(mode, 1), 1);
                due.same("the clocks so far", x.count(3), clocks + 1);
                due.same("the chips", x.count(0) + x.count(4) + x.count(5), 0);
            }
        }
    }

    private static void noWorkOfOtherStates() {
        due.sentence("- Other states: nothing.");
        for (int state : new int[] {1, 2, 5, 6, 7, 9, 12, 13, 14}) {
            for (int mode = 0; mode <= 1; mode++) {
                ScanChain x = Chains.of(2, 253, 8, 6, 0, 8);
                x.setPins(0, 170);
                x.load(0, 0);
                x.exchange(0, 85);
                x.move(state);
                String first = View.chip(x, 0);
                String second = View.chip(x, 1);
                x.clock(mode, 0);
                due.same("chip 0 behind a clock in " + state, View.chip(x, 0), first);
                due.same("chip 1 behind a clock in " + state, View.chip(x, 1), second);
            }
        }
    }

    private static void noClockInTheState() {
        due.sentence("(No clock if it is in this state.)");
        for (int state = 0; state < 16; state++) {
            ScanChain x = Chains.of(3, 9, 4);
            x.move(state);
            String before = View.system(x);
            due.same("move(" + state + ") in " + state, x.move(state), 0);
            due.same("nothing has changed", View.system(x), before);
        }
    }

    private static void movesHaveTheInputOne() {
        due.sentence("is clocked, with the input 1 in each clock");
        for (int state = 5; state <= 8; state++) {
            ScanChain x = Chains.of(2, 0, 8);
            x.load(0, 2);
            x.move(4);
            x.move(state);
            due.same("the bit that a move from 4 to " + state + " shifts in", x.chip(0, 8), 128);
        }
        for (int state = 12; state <= 15; state++) {
            ScanChain x = Chains.of(6, 9, 1);
            x.move(11);
            x.move(state);
            due.same("the bit that a move from 11 to " + state + " shifts in", x.chip(0, 7), 32);
        }
    }

    private static void movesAreTheShortest() {
        due.sentence("of the shortest sequences of modes by which the controller comes to this state from the present one, the first one in lexicographic order");
        for (int from = 0; from < 16; from++) {
            for (int to = 0; to < 16; to++) {
                ScanChain moved = Chains.of(3, 253, 5, 4, 0, 3);
                ScanChain clocked = Chains.of(3, 253, 5, 4, 0, 3);
                for (ScanChain x : new ScanChain[] {moved, clocked}) {
                    x.setPins(0, 22);
                    x.setPins(1, 5);
                    x.load(0, 0);
                    x.move(from);
                }
                String modes = firstShortest(from, to);
                due.same("move(" + to + ") in " + from, moved.move(to), modes.length());
                for (int at = 0; at < modes.length(); at++) {
                    clocked.clock(modes.charAt(at) - '0', 1);
                }
                due.same("the move from " + from + " to " + to, View.system(moved), View.system(clocked));
            }
        }
    }

    /** No two states are further apart than eight clocks. */
    private static String firstShortest(int from, int to) {
        for (int length = 0; length <= 8; length++) {
            for (int sequence = 0; sequence < 1 << length; sequence++) {
                int state = from;
                StringBuilder modes = new StringBuilder();
                for (int bit = length - 1; bit >= 0; bit--) {
                    int mode = sequence >> bit & 1;
                    modes.append(mode);
                    state = mode == 0 ? NEXT_0[state] : NEXT_1[state];
                }
                if (state == to) {
                    return modes.toString();
                }
            }
        }
        return "no way";
    }

    private static void moveRange() {
        due.sentence("7: state: 0 to 15; ... BAD_VALUE if state is out of range");
        ScanChain x = Chains.of(2, 0, 1);
        due.same("move(15)", x.move(15), 6);
        due.same("the state", x.count(2), 15);
        due.same("move(0)", x.move(0), 3);
        due.same("the state", x.count(2), 0);
        x.move(5);
        String before = View.of(x);
        due.same("move(16)", x.move(16), -2);
        due.same("move(17)", x.move(17), -2);
        for (int bad : OUTSIDE) {
            due.same("move(" + bad + ")", x.move(bad), -2);
        }
        due.same("behind the refused ones", View.of(x), before);
    }

    private static void distanceRange() {
        due.sentence("21: from: a state, 0 to 15; to: a state, 0 to 15; BAD_VALUE if an argument is out of range");
        ScanChain x = Chains.of(2, 0, 1);
        String before = View.of(x);
        due.same("distance(0, 15)", x.distance(0, 15), 6);
        due.same("distance(15, 0)", x.distance(15, 0), 3);
        due.same("distance(16, 0)", x.distance(16, 0), -2);
        due.same("distance(0, 16)", x.distance(0, 16), -2);
        due.same("distance(16, 16)", x.distance(16, 16), -2);
        for (int bad : OUTSIDE) {
            due.same("distance(" + bad + ", 15)", x.distance(bad, 15), -2);
            due.same("distance(15, " + bad + ")", x.distance(15, bad), -2);
            due.same("distance(" + bad + ", " + bad + ")", x.distance(bad, bad), -2);
        }
        due.same("distance changes nothing", View.of(x), before);
    }

    private static void distanceOfNothing() {
        due.sentence("21: Returns how many clocks a move takes.");
        ScanChain x = new ScanChain();
        for (int state = 0; state < 16; state++) {
            due.same("distance(" + state + ", " + state + ")", x.distance(state, state), 0);
            due.same("distance(" + state + ", " + NEXT_1[state] + ")", x.distance(state, NEXT_1[state]), NEXT_1[state] == state ? 0 : 1);
        }
    }

    private static void distanceIsTheMovesClocks() {
        due.sentence("21: Returns the number of clocks");
        for (int from = 0; from < 16; from++) {
            for (int to = 0; to < 16; to++) {
                ScanChain x = new ScanChain();
                x.move(from);
                int distance = x.distance(from, to);
                due.same("distance(" + from + ", " + to + ")", distance, firstShortest(from, to).length());
                due.same("the clocks of the move", x.move(to), distance);
            }
        }
    }

    private static void peekRange() {
        due.sentence("22: input: 0 or 1; BAD_VALUE if input is neither 0 nor 1");
        for (int state = 0; state < 16; state++) {
            ScanChain x = new ScanChain();
            x.move(state);
            String before = View.of(x);
            due.same("peek(0) in " + state, x.peek(0), state == 4 || state == 11 ? 0 : 1);
            due.same("peek(1) in " + state, x.peek(1), 1);
            due.same("peek(2) in " + state, x.peek(2), -2);
            due.same("peek(3) in " + state, x.peek(3), -2);
            for (int bad : OUTSIDE) {
                due.same("peek(" + bad + ") in " + state, x.peek(bad), -2);
            }
            due.same("peek changes nothing", View.of(x), before);
        }
    }

    private static void peekIsTheNextOutput() {
        due.sentence("22: Returns the output that the next clock would have.");
        for (int chips = 0; chips <= 6; chips += 3) {
            for (int state = 0; state < 16; state++) {
                for (int mode = 0; mode <= 1; mode++) {
                    ScanChain x = Chains.same(chips, 3, 9, 1);
                    x.move(state);
                    for (int input : new int[] {0, 1, 0, 0, 1}) {
                        int foretold = x.peek(input);
                        due.same("peek(" + input + ") in " + x.count(2), foretold, x.clock(mode, input));
                    }
                }
            }
        }
    }
}
